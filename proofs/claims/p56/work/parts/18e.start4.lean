/-! The digits' tables and the literals, at the start. -/
def FL : List Cond := flatC (Jvm.Cond.and given_1 narrow_1)
def digC (nm : String) (f : Nat → Nat) : List Cond := (List.range 100).map fun j => Cond.eq (.elem (.static "java/lang/Integer" nm "[B") (.int (Int32.ofNat j))) (.int (nI (f j)))
def litC (x : String × Nat × String) : List Cond := Cond.exactly (.string x.1 x.2.1) "java/lang/String" :: Cond.eq (.field (.string x.1 x.2.1) "java/lang/String" "coder" "B") (.int 0) :: Cond.arrayOf (.field (.string x.1 x.2.1) "java/lang/String" "value" "[B") .byte :: Cond.eq (.length (.field (.string x.1 x.2.1) "java/lang/String" "value" "[B")) (.int (Int32.ofNat (byt x.2.2).length)) :: (List.range (byt x.2.2).length).map fun j => Cond.eq (.elem (.field (.string x.1 x.2.1) "java/lang/String" "value" "[B") (.int (Int32.ofNat j))) (.int ((byt x.2.2).getD j 0))
set_option maxRecDepth 100000 in
theorem FL_ones : (FL.drop 10).take 100 = digC "DigitOnes" (fun j => 48 + j % 10) := by decide +kernel
set_option maxRecDepth 100000 in
theorem FL_tens : (FL.drop 113).take 100 = digC "DigitTens" (fun j => 48 + j / 10) := by decide +kernel
theorem part_mem {L P : List Cond} {q n : Nat} (h : (L.drop q).take n = P) {w : Cond} (hw : w ∈ P) : w ∈ L := by
  rw [← h] at hw
  exact List.mem_of_mem_drop (List.mem_of_mem_take hw)
/-- where the literals' words stand -/
def wZ : List (Nat × Nat × (String × Nat × String)) := [(322, 27, ("MetroFares", 300, "no such card or station")), (349, 30, ("MetroFares", 302, "a value outside its bounds")), (379, 20, ("MetroFares", 304, "not possible now")), (399, 21, ("MetroFares", 306, "no trip to repair")), (420, 29, ("MetroFares", 310, "more than a card can hold")), (449, 19, ("MetroFares", 330, "no such station")), (468, 16, ("MetroFares", 103, "no such rank")), (484, 16, ("MetroFares", 325, "no such card")), (517, 29, ("MetroFares", 332, "the card is not on a trip")), (500, 17, ("MetroFares", 334, "no recent day")), (687, 15, ("MetroFares", 189, "no trip yet")), (670, 17, ("MetroFares", 233, "no such index")), (742, 26, ("MetroFares", 242, "no printable character")), (768, 29, ("MetroFares", 247, "the script buffer is full")), (797, 9, ("MetroFares$ScriptReader", 46, "card ")), (806, 9, ("MetroFares$ScriptReader", 55, "load ")), (815, 7, ("MetroFares$ScriptReader", 61, "in ")), (822, 8, ("MetroFares$ScriptReader", 63, "out ")), (830, 8, ("MetroFares$ScriptReader", 65, "fix ")), (838, 9, ("MetroFares$ScriptReader", 67, "zone ")), (847, 9, ("MetroFares$ScriptReader", 72, "wait ")), (857, 28, ("MetroFares", 257, "not the form of a script")), (885, 20, ("MetroFares", 269, "a command failed")), (905, 19, ("MetroFares", 284, "nothing to undo")), (546, 6, ("MetroFaresLaw", 292, "r:")), (552, 6, ("MetroFaresLaw", 294, "f:")), (558, 5, ("MetroFaresLaw", 299, "@")), (570, 4, ("MetroFaresLaw", 305, "")), (702, 9, ("MetroFaresLaw", 371, "wait ")), (711, 8, ("MetroFaresLaw", 373, ";in ")), (719, 18, ("MetroFaresLaw", 375, " 3;wait 9;out ")), (737, 5, ("MetroFaresLaw", 377, " "))]
theorem wZ_wL : wZ.map (fun z => z.2.2) = wL := rfl
set_option maxRecDepth 100000 in
theorem FL_lits : ∀ z ∈ wZ, (FL.drop z.1).take z.2.1 = litC z.2.2 := by decide +kernel
theorem lit_mem {x : String × Nat × String} (hx : x ∈ wL) {w : Cond} (hw : w ∈ litC x) : w ∈ FL := by
  rw [← wZ_wL] at hx
  obtain ⟨z, hz, e⟩ := List.mem_map.mp hx
  subst e
  exact part_mem (FL_lits z hz) hw
theorem dig_mem {nm : String} {f : Nat → Nat} {j : Nat} (hj : j < 100) : Cond.eq (.elem (.static "java/lang/Integer" nm "[B") (.int (Int32.ofNat j))) (.int (nI (f j))) ∈ digC nm f := List.mem_map.mpr ⟨j, List.mem_range.mpr hj, rfl⟩
set_option maxRecDepth 100000 in
theorem start_dig {s : State} {args : Array Value} {nm : String} {f : Nat → Nat} (hl : (Cond.laysStatic "java/lang/Integer" nm "[B").before args s = true) (hini : (Cond.initialized "java/lang/Integer").before args s = true) (h1 : (Cond.arrayOf (.static "java/lang/Integer" nm "[B") .byte).before args s = true) (h2 : (Cond.eq (.length (.static "java/lang/Integer" nm "[B")) (.int (Int32.ofNat 100))).before args s = true) (h3 : ∀ j, j < 100 → (Cond.eq (.elem (.static "java/lang/Integer" nm "[B") (.int (Int32.ofNat j))) (.int (nI (f j)))).before args s = true) : Dig nm f (fun a => s.heap.size ≤ a) s s.heap := by
  have hA : ∀ a : Nat, a < s.heap.size → ¬ s.heap.size ≤ a := fun a h => Nat.not_le.mpr h
  obtain ⟨t, e, hT⟩ := va_Tof (N := 100) (f := fun j => .int (nI (f j))) (by decide) h1 (va_eqt h2) (fun j hj => va_eqt (h3 j hj)) hA
  exact ⟨t, va_Zref hl hini e hA, hT⟩
set_option maxRecDepth 100000 in
theorem start_digs {s : State} {args : Array Value} (hts : ∀ w ∈ lw_tbl, w.before args s = true) (hg : (Jvm.Cond.and given_1 narrow_1).before args s = true) : Dig "DigitTens" (fun j => 48 + j / 10) (fun a => s.heap.size ≤ a) s s.heap ∧ Dig "DigitOnes" (fun j => 48 + j % 10) (fun a => s.heap.size ≤ a) s s.heap := by
  have hf : ∀ w ∈ FL, w.before args s = true := flat_of_before _ hg
  exact ⟨start_dig (hts _ (by decide +kernel)) (hts _ (by decide +kernel)) (hf _ (List.mem_of_getElem? (i := 111) (by decide +kernel))) (hf _ (List.mem_of_getElem? (i := 112) (by decide +kernel))) (fun j hj => hf _ (part_mem FL_tens (dig_mem hj))),
    start_dig (hts _ (by decide +kernel)) (hts _ (by decide +kernel)) (hf _ (List.mem_of_getElem? (i := 8) (by decide +kernel))) (hf _ (List.mem_of_getElem? (i := 9) (by decide +kernel))) (fun j hj => hf _ (part_mem FL_ones (dig_mem hj)))⟩
def rfv : Option Value → Nat := fun v => match v with
  | some (.ref a) => a
  | _ => 0
/-- the literals' addresses, and those of their bytes -/
def sgm (args : Array Value) (s : State) : SG := fun own k => (rfv ((Term.string own k).eval args s none [] s), rfv ((Term.field (.string own k) "java/lang/String" "value" "[B").eval args s none [] s))
theorem start_str {s : State} {args : Array Value} {own tx : String} {k : Nat} (hn : (byt tx).length < 2 ^ 31) (hr : (Cond.stringRef own k tx).before args s = true) (hl : ∀ w ∈ litC (own, k, tx), w.before args s = true) : vk_R own k tx (sgm args s own k).1 s ∧ Str (sgm args s own k) tx (fun a => s.heap.size ≤ a) s s.heap := by
  have hA : ∀ a : Nat, a < s.heap.size → ¬ s.heap.size ≤ a := fun a h => Nat.not_le.mpr h
  obtain ⟨h1, hl⟩ := List.forall_mem_cons.mp hl
  obtain ⟨h2, hl⟩ := List.forall_mem_cons.mp hl
  obtain ⟨h3, hl⟩ := List.forall_mem_cons.mp hl
  obtain ⟨h4, hl⟩ := List.forall_mem_cons.mp hl
  obtain ⟨a, c, cA, kA, q1, -⟩ := Cond.exactly_spec (args := args) (first := s) (o := none) (s := s) (idx := []) (t := .string own k) (cls := "java/lang/String") h1
  obtain ⟨t, ht, hT⟩ := va_Tof (f := fun j => .int ((byt tx).getD j 0)) hn h3 (va_eqt h4) (fun j hj => va_eqt (hl _ (List.mem_map.mpr ⟨j, List.mem_range.mpr hj, rfl⟩))) hA
  have e1 : sgm args s own k = (a, t) := by
    show (rfv ((Term.string own k).eval args s none [] s), rfv ((Term.field (.string own k) "java/lang/String" "value" "[B").eval args s none [] s)) = (a, t)
    rw [q1, ht]
    rfl
  rw [e1]
  exact ⟨vk_R.of hr q1, va_Oof h1 q1 hA, vk_OFof q1 (va_eqt h2) hA, vk_OFof q1 ht hA, hT⟩
set_option maxRecDepth 100000 in
theorem lit_tbl : ∀ x ∈ wL, Cond.stringRef x.1 x.2.1 x.2.2 ∈ lw_tbl := by decide +kernel
theorem lit_len : ∀ x ∈ wL, (byt x.2.2).length < 2 ^ 31 := by decide +kernel
theorem start_strs {s : State} {args : Array Value} (hts : ∀ w ∈ lw_tbl, w.before args s = true) (hg : (Jvm.Cond.and given_1 narrow_1).before args s = true) : ∀ x ∈ wL, vk_R x.1 x.2.1 x.2.2 (sgm args s x.1 x.2.1).1 s ∧ Str (sgm args s x.1 x.2.1) x.2.2 (fun a => s.heap.size ≤ a) s s.heap := by
  have hf : ∀ w ∈ FL, w.before args s = true := flat_of_before _ hg
  intro x hx
  exact start_str (lit_len x hx) (hts _ (lit_tbl x hx)) (fun w hw => hf w (lit_mem hx hw))
theorem start_wd {s : State} {args : Array Value} (hts : ∀ w ∈ lw_tbl, w.before args s = true) (hg : (Jvm.Cond.and given_1 narrow_1).before args s = true) : Wd (sgm args s) (fun a => s.heap.size ≤ a) s s.heap := by
  obtain ⟨z1, z2, z3, z4⟩ := start_z hts hg
  obtain ⟨d1, d2⟩ := start_digs hts hg
  exact ⟨fun x hx => (start_strs hts hg x hx).2, z1, z2, d1, d2, z3, z4, start_ex hts hg⟩
theorem forget_new {s t : State} {L : List Loc} {k n : Nat} (h : s.sameButNew t L k n) (hL : ∀ q ∈ L, s.heap.size ≤ q.base) : s.sameButNew t [] k n := by
  obtain ⟨h1, h2, h3, h4, h5, h6⟩ := h
  refine ⟨h1, h2, h3, h4, h5, fun a c hc => ?_⟩
  obtain ⟨c', g1, g2, g3, g4⟩ := h6 a c hc
  refine ⟨c', g1, g2, g3, fun i _ => g4 i (fun hm => ?_)⟩
  have := hL _ hm
  exact absurd (Array.getElem?_eq_some_iff.mp hc).1 (Nat.not_lt.mpr this)
