-- deps: 376
-- what the law finds at its start: the texts, the classes
def tmS (i : Nat) : Term := match i with
  | 0 => .string "QueryForge$Words" 72
  | 1 => .string "QueryForge$Words" 60
  | _ => .string "QueryForgeModel" 109
abbrev gvn : List Jvm.Cond := flatC (Jvm.Cond.and given_1 narrow_1)
set_option maxRecDepth 100000 in
theorem gS_ex : ∀ i, i < 3 → Cond.exactly (tmS i) "java/lang/String" ∈ gvn := by decide +kernel
set_option maxRecDepth 100000 in
theorem gS_co : ∀ i, i < 3 → Cond.eq (.field (tmS i) "java/lang/String" "coder" "B") (.int 0) ∈ gvn := by decide +kernel
set_option maxRecDepth 100000 in
theorem gS_ar : ∀ i, i < 3 → Cond.arrayOf (.field (tmS i) "java/lang/String" "value" "[B") .byte ∈ gvn := by decide +kernel
set_option maxRecDepth 100000 in
theorem gS_le : ∀ i, i < 3 → Cond.eq (.length (.field (tmS i) "java/lang/String" "value" "[B")) (.int (Int32.ofNat (lenL.getD i 0))) ∈ gvn := by decide +kernel
def elS (i j : Nat) : Cond := Cond.eq (.elem (.field (tmS i) "java/lang/String" "value" "[B") (.int (Int32.ofNat j))) (.int ((bytL.getD i []).getD j 0))
set_option maxRecDepth 100000 in
theorem gS_l0 : (gvn.drop 13).take 154 = (List.range 154).map (elS 0) := by decide +kernel
set_option maxRecDepth 100000 in
theorem gS_l1 : (gvn.drop 171).take 13 = (List.range 13).map (elS 1) := by decide +kernel
set_option maxRecDepth 100000 in
theorem gS_l2 : (gvn.drop 189).take 114 = (List.range 114).map (elS 2) := by decide +kernel
theorem mem_dt {α : Type} {l : List α} {f : Nat → α} {n k : Nat} (h : (l.drop k).take n = (List.range n).map f) {j : Nat} (hj : j < n) : f j ∈ l := by
  have h1 : f j ∈ (l.drop k).take n := by rw [h]; exact List.mem_map.mpr ⟨j, List.mem_range.mpr hj, rfl⟩
  exact List.mem_of_mem_drop (List.mem_of_mem_take h1)
theorem gS_el (i : Nat) (hi : i < 3) (j : Nat) (hj : j < lenL.getD i 0) : elS i j ∈ gvn := by
  match i, hi with
  | 0, _ => exact mem_dt gS_l0 hj
  | 1, _ => exact mem_dt gS_l1 hj
  | 2, _ => exact mem_dt gS_l2 hj
  | i + 3, h => exact absurd h (by omega)
set_option maxRecDepth 100000 in
theorem gS_ne : ∀ i, i < 3 → ∀ j, j < 3 → i ≠ j → Cond.not (Cond.eq (tmS i) (tmS j)) ∈ gvn ∨ Cond.not (Cond.eq (tmS j) (tmS i)) ∈ gvn := by decide +kernel
set_option maxRecDepth 100000 in
theorem gS_one : Cond.eq (.string "QueryForge$Words" 60) (.string "QueryForgeModel" 152) ∈ gvn := by decide +kernel
set_option maxRecDepth 100000 in
theorem gS_cs : Cond.eq (.static "java/lang/String" "COMPACT_STRINGS" "Z") (.int 1) ∈ gvn := by decide +kernel
set_option maxRecDepth 100000 in
theorem gS_sf : Cond.isRef (.static "jdk/internal/util/Preconditions" "SIOOBE_FORMATTER" "Ljava/util/function/BiFunction;") ∈ gvn := by decide +kernel
theorem gS_N : ∀ i, i < 3 → lenL.getD i 0 < 2 ^ 31 := by decide +kernel
theorem wd_i {w : Cond} (i : Nat) (h : lw_tbl[i]? = some w) : w ∈ lw_tbl := List.mem_of_getElem? h
/-- the texts and the statics, as the law finds them -/
theorem ks_of {args : Array Value} {s : State} (hts : ∀ w ∈ lw_tbl, w.before args s = true) (hg : (Jvm.Cond.and given_1 narrow_1).before args s = true) : ∃ adK adV : Nat → Nat, ∀ ad : Nat → Nat → Nat, ad 1000 = adK → ad 1001 = adV → (∀ q, fr ad q → s.heap.size ≤ q) → KS ad s := by
  have hs : ∀ c ∈ gvn, c.before args s = true := flat_of_before _ hg
  have hA : ∀ a : Nat, a < s.heap.size → ¬ (fun q : Nat => s.heap.size ≤ q) a := fun a h z => absurd h (Nat.not_lt.mpr z)
  obtain ⟨adK, adV, h1, h2⟩ := vk_Sof (tm := tmS) (N := 3) (len := lenL) (byt := bytL) (A := fun q : Nat => s.heap.size ≤ q) gS_N (fun i hi => hs _ (gS_ex i hi)) (fun i hi => hs _ (gS_co i hi)) (fun i hi => hs _ (gS_ar i hi)) (fun i hi => hs _ (gS_le i hi)) (fun i hi j hj => hs _ (gS_el i hi j hj)) (fun i j hi hj hij => (gS_ne i hi j hj hij).imp (hs _) (hs _)) hA
  refine ⟨adK, adV, fun ad e1 e2 hfr => ?_⟩
  have z1 := (va_Zof (A := fun q : Nat => s.heap.size ≤ q) (hts _ (wd_i 532 (by decide +kernel))) (hts _ (wd_i 126 (by decide +kernel))) (va_eqt (hs _ gS_cs)) hA)
  have z2 := (va_Zqof (A := fun q : Nat => s.heap.size ≤ q) (hts _ (wd_i 540 (by decide +kernel))) (hts _ (wd_i 128 (by decide +kernel))) (hs _ gS_sf) hA)
  unfold KS
  rw [e1, e2]
  exact ⟨h1.narrow hfr, ⟨vk_R.of (hts _ (wd_i 522 (by decide +kernel))) (h2 0 (by decide)), vk_R.of (hts _ (wd_i 587 (by decide +kernel))) (h2 1 (by decide)), vk_R.of (hts _ (wd_i 1382 (by decide +kernel))) (h2 2 (by decide)), vk_R.of (hts _ (wd_i 1410 (by decide +kernel))) (va_eqR (hs _ gS_one) (h2 1 (by decide)))⟩, z1.narrow hfr, z2.narrow hfr⟩
theorem arr_of {args : Array Value} {s : State} {ty : FieldType} (h : (Cond.arrayClass ty).before args s = true) : ∃ c : ClassId, ArrOfT s c ty ∧ s.vm.findClass ("[" ++ ty.toString) = some c := by
  obtain ⟨c, k, comp, h1, h2, h3⟩ := Cond.arrayClass_spec (args := args) (first := s) (o := none) (s := s) (idx := []) h
  exact ⟨c, fun n z => ⟨fun k h => (by cases h), k, h2, comp, h3⟩, h1⟩
/-- the classes, as the law finds them -/
theorem kk_of {args : Array Value} {s : State} (hts : ∀ w ∈ wT, w.before args s = true) (hO : va_AO "QueryForge$Table" s) : ∃ (D : va_G) (cA : Nat → ClassId), va_K D vwCl (tyl cA) s := by
  have h0 : ∀ k : Nat, ∃ q : ClassId × (Nat → Nat), ∀ r : vw_C, vwCl[k]? = some r → u_Kn s r.1 r.2.1 r.2.2 q.1 q.2 := by
    intro k
    match k with
    | 0 => obtain ⟨c, i, h⟩ := u_known hts iX0 (hts _ is_X0); exact ⟨(c, i), fun r hr => by cases hr; exact h⟩
    | 1 => obtain ⟨c, i, h⟩ := u_known hts iX1 (hts _ is_X1); exact ⟨(c, i), fun r hr => by cases hr; exact h⟩
    | 2 => obtain ⟨c, i, h⟩ := u_known hts iX2 (hts _ is_X2); exact ⟨(c, i), fun r hr => by cases hr; exact h⟩
    | 3 => obtain ⟨c, i, h⟩ := u_known hts iX3 (hts _ is_X3); exact ⟨(c, i), fun r hr => by cases hr; exact h⟩
    | 4 => obtain ⟨c, i, h⟩ := u_known hts iX4 (hts _ is_X4); exact ⟨(c, i), fun r hr => by cases hr; exact h⟩
    | 5 => obtain ⟨c, i, h⟩ := u_known hts iX5 (hts _ is_X5); exact ⟨(c, i), fun r hr => by cases hr; exact h⟩
    | 6 => obtain ⟨c, i, h⟩ := u_known hts iX6 (hts _ is_X6); exact ⟨(c, i), fun r hr => by cases hr; exact h⟩
    | 7 => obtain ⟨c, i, h⟩ := u_known hts iX7 (hts _ is_X7); exact ⟨(c, i), fun r hr => by cases hr; exact h⟩
    | 8 => obtain ⟨c, i, h⟩ := u_known hts iX8 (hts _ is_X8); exact ⟨(c, i), fun r hr => by cases hr; exact h⟩
    | 9 => obtain ⟨c, i, h⟩ := u_known hts iX9 (hts _ is_X9); exact ⟨(c, i), fun r hr => by cases hr; exact h⟩
    | 10 => obtain ⟨c, i, h⟩ := u_known hts iX10 (hts _ is_X10); exact ⟨(c, i), fun r hr => by cases hr; exact h⟩
    | 11 => obtain ⟨c, i, h⟩ := u_known hts iX11 (hts _ is_X11); exact ⟨(c, i), fun r hr => by cases hr; exact h⟩
    | k + 12 => exact ⟨(0, fun _ => 0), fun r hr => by simp [vwCl] at hr⟩
  obtain ⟨f, hf⟩ := Classical.axiomOfChoice h0
  obtain ⟨c0, a0, b0⟩ := arr_of (hts _ wd_ai)
  obtain ⟨c1, a1, b1⟩ := arr_of (hts _ wd_az)
  obtain ⟨c2, a2, b2⟩ := arr_of (hts _ wd_ac)
  obtain ⟨c3, a3, b3⟩ := arr_of (hts _ wd_al)
  obtain ⟨comp, c4, kA, g1, g2, g3, g4, g5⟩ := Cond.arrayOver_spec (args := #[]) (first := s) (o := none) (s := s) (idx := []) hO
  refine ⟨(fun k => (f k).1, fun k => (f k).2), fun t => [c0, c1, c2, c3, c4].getD t 0, fun k q hq => hf k q hq, ?_⟩
  intro k q hq
  match k, hq with
  | 0, hq => cases hq; exact ⟨a0, b0⟩
  | 1, hq => cases hq; exact ⟨a1, b1⟩
  | 2, hq => cases hq; exact ⟨a2, b2⟩
  | 3, hq => cases hq; exact ⟨a3, b3⟩
  | 4, hq => cases hq; exact ⟨fun n z => ⟨fun k h => (by cases h), kA, g3, comp, g4⟩, ⟨kA, comp, g3, g4, g1, g5⟩⟩
  | k + 5, hq => simp [tyl] at hq
