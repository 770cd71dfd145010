-- deps: 248
-- System.arraycopy in Result.sort, by hand
theorem ac_lk : Cond.methodLink RX5 59 arraycopyName ∈ wT := wT_mem 1108 (by decide +kernel) (by decide +kernel)
theorem ac_st : Cond.static arraycopyName ∈ wT := wT_mem 1109 (by decide +kernel) (by decide +kernel)
theorem ac_nt : Cond.native arraycopyName ∈ wT := wT_mem 1110 (by decide +kernel) (by decide +kernel)
theorem ac_in : Cond.initialized "java/lang/System" ∈ wT := wT_mem 133 (by decide +kernel) (by decide +kernel)
/-- all cells of the layout -/
def allC : List (Nat × Nat) := (List.range 70).flatMap (fun c => (List.range (NI c)).map (fun j => (c, j)))
theorem allC_nd : allC.Nodup := by decide +kernel
theorem LY_lt {c : Nat} {kd : KD} (h : LY c = some kd) : c < 70 := by
  rcases Nat.lt_or_ge c 70 with q | q
  · exact q
  · obtain ⟨k, rfl⟩ : ∃ k, c = k + 70 := ⟨c - 70, by omega⟩
    exact absurd h (by simp [LY])
theorem allC_mem {c j : Nat} {kd : KD} (h : LY c = some kd) (hj : j < NI c) : (c, j) ∈ allC := by
  unfold allC
  rw [List.mem_flatMap]
  exact ⟨c, List.mem_range.mpr (LY_lt h), List.mem_map.mpr ⟨j, List.mem_range.mpr hj, rfl⟩⟩
theorem allC_ly : ∀ x ∈ allC, (LY x.1).isSome = true ∧ x.2 < NI x.1 := by decide +kernel
def wsA (ad : Nat → Nat → Nat) (cA : Nat → ClassId) (S : ST) : va_W := allC.map (fun x => (ad x.1 x.2, en ad cA S x.1 x.2 ((LY x.1).getD (.inl (0, 0)))))
theorem wsA_P {D : va_G} {ad : Nat → Nat → Nat} {cA : Nat → ClassId} {S : ST} {H : Heap} (hR : Rep D ad cA S H) : va_P D vwCl (wsA ad cA S) H := by
  intro k q hk
  unfold wsA at hk
  rw [List.getElem?_map] at hk
  cases hx : allC[k]? with
  | none => rw [hx] at hk; exact absurd hk (by simp)
  | some x =>
    rw [hx] at hk
    simp only [Option.map_some, Option.some.injEq] at hk
    subst hk
    obtain ⟨h1, h2⟩ := allC_ly x (List.mem_of_getElem? hx)
    obtain ⟨kd, hkd⟩ := Option.isSome_iff_exists.mp h1
    rw [hkd]
    exact hR x.1 x.2 kd hkd h2
theorem wsA_D {ad : Nat → Nat → Nat} {cA : Nat → ClassId} {S : ST} (hi : Inj ad) : va_D (fr ad) (wsA ad cA S) := by
  have key : ∀ (k : Nat) (q : Nat × va_E), (wsA ad cA S)[k]? = some q → ∃ x, allC[k]? = some x ∧ q.1 = ad x.1 x.2 ∧ vld x.1 x.2 := by
    intro k q hk
    unfold wsA at hk
    rw [List.getElem?_map] at hk
    cases hx : allC[k]? with
    | none => rw [hx] at hk; exact absurd hk (by simp)
    | some x =>
      rw [hx] at hk
      simp only [Option.map_some, Option.some.injEq] at hk
      subst hk
      obtain ⟨h1, h2⟩ := allC_ly x (List.mem_of_getElem? hx)
      obtain ⟨kd, hkd⟩ := Option.isSome_iff_exists.mp h1
      exact ⟨x, rfl, rfl, ⟨kd, hkd⟩, h2⟩
  refine ⟨?_, ?_⟩
  · intro i j p q hp hq he
    obtain ⟨x, hx, ex, vx⟩ := key i p hp
    obtain ⟨y, hy, ey, vy⟩ := key j q hq
    have := hi x.1 x.2 y.1 y.2 vx vy (by rw [← ex, ← ey]; exact he)
    have exy : x = y := Prod.ext this.1 this.2
    subst exy
    have hlt : i < allC.length := (List.getElem?_eq_some_iff.mp hx).1
    exact (List.getElem?_inj hlt allC_nd).mp (hx.trans hy.symm)
  · intro k q hk
    obtain ⟨x, hx, ex, vx⟩ := key k q hk
    exact ⟨x.1, x.2, vx, ex.symm⟩
theorem wsA_R {D : va_G} {ad : Nat → Nat → Nat} {cA : Nat → ClassId} {S S' : ST} {H : Heap} {c j k : Nat} {kd : KD} (hk : allC[k]? = some (c, j)) (hc : LY c = some kd) (hs : ∀ (c' j' : Nat) (kd' : KD), (c' ≠ c ∨ j' ≠ j) → en ad cA S' c' j' kd' = en ad cA S c' j' kd') (hP : va_P D vwCl ((wsA ad cA S).set k (ad c j, en ad cA S' c j kd)) H) : Rep D ad cA S' H := by
  intro c' j' kd' hc' hj'
  obtain ⟨i, hi⟩ := List.getElem?_of_mem (allC_mem hc' hj')
  have hlt : i < allC.length := (List.getElem?_eq_some_iff.mp hi).1
  have hlw : (wsA ad cA S).length = allC.length := by simp [wsA]
  by_cases e : i = k
  · subst e
    rw [hk] at hi
    obtain ⟨rfl, rfl⟩ : c = c' ∧ j = j' := by simpa using hi
    cases hc.symm.trans hc'
    exact hP i _ (by rw [List.getElem?_set_self (by omega)])
  · have hne : c' ≠ c ∨ j' ≠ j := by
      by_cases h1 : c' = c
      · right
        intro h2
        subst h1; subst h2
        exact e ((List.getElem?_inj hlt allC_nd).mp (hi.trans hk.symm))
      · exact Or.inl h1
    rw [hs c' j' kd' hne]
    refine hP i _ ?_
    rw [List.getElem?_set_ne (Ne.symm e)]
    unfold wsA
    rw [List.getElem?_map, hi]
    simp only [Option.map_some]
    rw [hc']
    rfl
theorem cpy_0 (f g : Nat → Int32) (n : Nat) : va_cpy f g 0 0 n = fun i => if i < n then f i else g i := by
  funext i
  simp [va_cpy]
theorem k_copy {h : Nat} {L : LVs} {S : ST} {Q : Option AV → ST → Prop} {j n : Nat} (hj : j < 2) (hn : n ≤ 576) (k : V MX5_sort (h + 1) 98 L [] (sa S 20 j (fun i => if i < n then ga S 21 j i else ga S 20 j i)) Q) : V MX5_sort (h + 1) 95 L [vI (nI n), vI (nI 0), vR 20 j, vI (nI 0), vR 21 j] S Q := by
  intro p l e R s m args below meth cc D ad cA G H locs ls hR hS hL
  have G' := G
  obtain ⟨hx, hb, hrt, hm, hown, hts, hK, hlk, rfl, hi, hks⟩ := G
  have i20 : (20, j) ∈ allC := allC_mem LY_20 (by rw [NI_20]; exact hj)
  have i21 : (21, j) ∈ allC := allC_mem LY_21 (by rw [NI_21]; exact hj)
  obtain ⟨q1, h20⟩ := List.getElem?_of_mem i20
  obtain ⟨q0, h21⟩ := List.getElem?_of_mem i21
  have c0 : (nI 0).toNatClampNeg = 0 := by decide
  have cn : (nI n).toNatClampNeg = n := nI_clamp (by omega)
  refine va_copyi (sp := nI 0) (dp := nI 0) (n := nI n) hx hb (hm.trans hL.1.symm) hown (hts _ ac_lk) (hts _ ac_nt) (hts _ ac_st) (hts _ ac_in) hK (wsA_P hR) (wsA_D hi) hS q0 q1 0 0 (n0 := 576) (n1 := 576) (f := ga S 21 j) (g := ga S 20 j) (ty := .int) ?_ ?_ rfl rfl rfl (by decide) (by decide) ?_ ?_ ?_ ?_ ?_ ?_ dX5_sort_95 ?_
  · unfold wsA; rw [List.getElem?_map, h21]; rfl
  · unfold wsA; rw [List.getElem?_map, h20]; rfl
  · exact (show ¬ nI n < nI 0 from nI_nlt (by omega) (by omega))
  · rw [c0, cn]; omega
  · rw [c0, cn]; omega
  · intro i _; rfl
  · show 1 ≤ h + 1; omega
  · show 0 + _ ≤ 64 * (h + 1)
    have : nativeFrameWords "java/lang/System" "arraycopy" 5 + 11 ≤ 64 := by decide
    omega
  · intro H1 locs1 hP1 hD1 hS1
    rw [c0, cn, cpy_0] at hP1
    refine k p l e _ s m args below meth cc D ad cA G' H1 locs1 ls ?_ hS1 hL
    refine wsA_R (c := 20) (j := j) h20 LY_20 (fun c' j' kd' hd => en_sa kd' hd) ?_
    have e : en ad cA (sa S 20 j (fun i => if i < n then ga S 21 j i else ga S 20 j i)) 20 j (.inr (0, 576, 0)) = .inl (cA 0, 576, .inl (fun i => if i < n then ga S 21 j i else ga S 20 j i)) := by
      simp only [en, ga_sa, and_self, reduceIte]
    exact e ▸ hP1
