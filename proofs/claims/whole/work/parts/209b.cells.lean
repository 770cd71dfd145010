-- all cells of the layout; System.arraycopy of a long array within itself
/-- all cells of the layout -/
def allC : List (Nat × Nat) := (List.range 70).flatMap (fun c => (List.range (NI c)).map (fun j => (c, j)))
theorem allC_nd : allC.Nodup := by decide +kernel
theorem LY_lt {c : Nat} {kd : KD} (h : LY c = some kd) : c < 70 := by
  rcases Nat.lt_or_ge c 70 with q | q
  · exact q
  · obtain ⟨k, rfl⟩ : ∃ k, c = k + 70 := ⟨c - 70, by omega⟩
    exact absurd h (by simp [LY])
theorem allC_mem {c j : Nat} {kd : KD} (h : LY c = some kd) (hj : j < NI c) : (c, j) ∈ allC := by
  unfold allC
  rw [List.mem_flatMap]
  exact ⟨c, List.mem_range.mpr (LY_lt h), List.mem_map.mpr ⟨j, List.mem_range.mpr hj, rfl⟩⟩
theorem allC_ly : ∀ x ∈ allC, (LY x.1).isSome = true ∧ x.2 < NI x.1 := by decide +kernel
def wsA (ad : Nat → Nat → Nat) (cA : Nat → ClassId) (S : ST) : va_W := allC.map (fun x => (ad x.1 x.2, en ad cA S x.1 x.2 ((LY x.1).getD (.inl (0, 0)))))
theorem wsA_P {D : va_G} {ad : Nat → Nat → Nat} {cA : Nat → ClassId} {S : ST} {H : Heap} (hR : Rep D ad cA S H) : va_P D vwCl (wsA ad cA S) H := by
  intro k q hk
  unfold wsA at hk
  rw [List.getElem?_map] at hk
  cases hx : allC[k]? with
  | none => rw [hx] at hk; exact absurd hk (by simp)
  | some x =>
    rw [hx] at hk
    simp only [Option.map_some, Option.some.injEq] at hk
    subst hk
    obtain ⟨h1, h2⟩ := allC_ly x (List.mem_of_getElem? hx)
    obtain ⟨kd, hkd⟩ := Option.isSome_iff_exists.mp h1
    rw [hkd]
    exact hR x.1 x.2 kd hkd h2
theorem wsA_D {ad : Nat → Nat → Nat} {cA : Nat → ClassId} {S : ST} (hi : Inj ad) : va_D (fr ad) (wsA ad cA S) := by
  have key : ∀ (k : Nat) (q : Nat × va_E), (wsA ad cA S)[k]? = some q → ∃ x, allC[k]? = some x ∧ q.1 = ad x.1 x.2 ∧ vld x.1 x.2 := by
    intro k q hk
    unfold wsA at hk
    rw [List.getElem?_map] at hk
    cases hx : allC[k]? with
    | none => rw [hx] at hk; exact absurd hk (by simp)
    | some x =>
      rw [hx] at hk
      simp only [Option.map_some, Option.some.injEq] at hk
      subst hk
      obtain ⟨h1, h2⟩ := allC_ly x (List.mem_of_getElem? hx)
      obtain ⟨kd, hkd⟩ := Option.isSome_iff_exists.mp h1
      exact ⟨x, rfl, rfl, ⟨kd, hkd⟩, h2⟩
  refine ⟨?_, ?_⟩
  · intro i j p q hp hq he
    obtain ⟨x, hx, ex, vx⟩ := key i p hp
    obtain ⟨y, hy, ey, vy⟩ := key j q hq
    have := hi x.1 x.2 y.1 y.2 vx vy (by rw [← ex, ← ey]; exact he)
    have exy : x = y := Prod.ext this.1 this.2
    subst exy
    have hlt : i < allC.length := (List.getElem?_eq_some_iff.mp hx).1
    exact (List.getElem?_inj hlt allC_nd).mp (hx.trans hy.symm)
  · intro k q hk
    obtain ⟨x, hx, ex, vx⟩ := key k q hk
    exact ⟨x.1, x.2, vx, ex.symm⟩
theorem wsA_R {D : va_G} {ad : Nat → Nat → Nat} {cA : Nat → ClassId} {S S' : ST} {H : Heap} {c j k : Nat} {kd : KD} (hk : allC[k]? = some (c, j)) (hc : LY c = some kd) (hs : ∀ (c' j' : Nat) (kd' : KD), (c' ≠ c ∨ j' ≠ j) → en ad cA S' c' j' kd' = en ad cA S c' j' kd') (hP : va_P D vwCl ((wsA ad cA S).set k (ad c j, en ad cA S' c j kd)) H) : Rep D ad cA S' H := by
  intro c' j' kd' hc' hj'
  obtain ⟨i, hi⟩ := List.getElem?_of_mem (allC_mem hc' hj')
  have hlt : i < allC.length := (List.getElem?_eq_some_iff.mp hi).1
  have hlw : (wsA ad cA S).length = allC.length := by simp [wsA]
  by_cases e : i = k
  · subst e
    rw [hk] at hi
    obtain ⟨rfl, rfl⟩ : c = c' ∧ j = j' := by simpa using hi
    cases hc.symm.trans hc'
    exact hP i _ (by rw [List.getElem?_set_self (by omega)])
  · have hne : c' ≠ c ∨ j' ≠ j := by
      by_cases h1 : c' = c
      · right
        intro h2
        subst h1; subst h2
        exact e ((List.getElem?_inj hlt allC_nd).mp (hi.trans hk.symm))
      · exact Or.inl h1
    rw [hs c' j' kd' hne]
    refine hP i _ ?_
    rw [List.getElem?_set_ne (Ne.symm e)]
    unfold wsA
    rw [List.getElem?_map, hi]
    simp only [Option.map_some]
    rw [hc']
    rfl
theorem v_copyl {M : MD} {h pc : Nat} {L : LVs} {S : ST} {Q : Option AV → ST → Prop} {idx c j n0 sp dp n : Nat} (d : decode M.2.1 pc = .ok (.invokestatic idx, 3)) (hl : Cond.methodLink M.1.cls idx arraycopyName ∈ wT) (hc : LY c = some (.inr (3, n0, 0))) (hj : j < NI c) (h4 : sp + n ≤ n0) (h5 : dp + n ≤ n0) (hn0 : n0 < 100000) (k : V M (h + 1) (pc + 3) L [] (sb S c j (va_cpy (gb S c j) (gb S c j) sp dp n)) Q) : V M (h + 1) pc L [vI (nI n), vI (nI dp), vR c j, vI (nI sp), vR c j] S Q := by
  intro p l e R s m args below meth cc D ad cA G H locs ls hR hS hL
  have G' := G
  obtain ⟨hx, hb, hrt, hm, hown, hts, hK, hlk, rfl, hi, hks⟩ := G
  have ic : (c, j) ∈ allC := allC_mem hc hj
  obtain ⟨q1, h1⟩ := List.getElem?_of_mem ic
  have cs : (nI sp).toNatClampNeg = sp := nI_clamp (by omega)
  have cd : (nI dp).toNatClampNeg = dp := nI_clamp (by omega)
  have cn : (nI n).toNatClampNeg = n := nI_clamp (by omega)
  have hw : (wsA ad cA S)[q1]? = some (ad c j, .inl (cA 3, n0, .inr (.inl (gb S c j)))) := by
    unfold wsA
    rw [List.getElem?_map, h1]
    simp only [Option.map_some, hc, Option.getD_some]
    rfl
  refine va_copyl (sp := nI sp) (dp := nI dp) (n := nI n) hx hb (hm.trans hL.1.symm) hown (hts _ hl) (hts _ ac_nt) (hts _ ac_st) (hts _ ac_in) hK (wsA_P hR) (wsA_D hi) hS q1 q1 3 3 (n0 := n0) (n1 := n0) (f := gb S c j) (g := gb S c j) (ty := .long) hw hw rfl rfl rfl ?_ ?_ ?_ ?_ ?_ ?_ ?_ ?_ d ?_
  · exact (show ¬ nI sp < nI 0 from nI_nlt (by omega) (by omega))
  · exact (show ¬ nI dp < nI 0 from nI_nlt (by omega) (by omega))
  · exact (show ¬ nI n < nI 0 from nI_nlt (by omega) (by omega))
  · rw [cs, cn]; omega
  · rw [cd, cn]; omega
  · intro i _; rfl
  · show 1 ≤ h + 1; omega
  · show 0 + _ ≤ 64 * (h + 1)
    have : nativeFrameWords "java/lang/System" "arraycopy" 5 + 11 ≤ 64 := by decide
    omega
  · intro H1 locs1 hP1 hD1 hS1
    rw [cs, cd, cn] at hP1
    refine k p l e _ s m args below meth cc D ad cA G' H1 locs1 ls ?_ hS1 hL
    refine wsA_R (c := c) (j := j) h1 hc (fun c' j' kd' hd => en_sb kd' hd) ?_
    have e : en ad cA (sb S c j (va_cpy (gb S c j) (gb S c j) sp dp n)) c j (.inr (3, n0, 0)) = .inl (cA 3, n0, .inr (.inl (va_cpy (gb S c j) (gb S c j) sp dp n))) := by
      simp only [en, gb_sb, and_self, reduceIte]
    exact e ▸ hP1
