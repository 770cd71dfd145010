-- deps: 248
-- System.arraycopy in Result.sort, by hand
theorem cpy_0 (f g : Nat → Int32) (n : Nat) : va_cpy f g 0 0 n = fun i => if i < n then f i else g i := by
  funext i
  simp [va_cpy]
theorem k_copy {h : Nat} {L : LVs} {S : ST} {Q : Option AV → ST → Prop} {j n : Nat} (hj : j < 2) (hn : n ≤ 576) (k : V MX5_sort (h + 1) 98 L [] (sa S 20 j (fun i => if i < n then ga S 21 j i else ga S 20 j i)) Q) : V MX5_sort (h + 1) 95 L [vI (nI n), vI (nI 0), vR 20 j, vI (nI 0), vR 21 j] S Q := by
  intro p l e R s m args below meth cc D ad cA G H locs ls hR hS hL
  have G' := G
  obtain ⟨hx, hb, hrt, hm, hown, hts, hK, hlk, rfl, hi, hks⟩ := G
  have i20 : (20, j) ∈ allC := allC_mem LY_20 (by rw [NI_20]; exact hj)
  have i21 : (21, j) ∈ allC := allC_mem LY_21 (by rw [NI_21]; exact hj)
  obtain ⟨q1, h20⟩ := List.getElem?_of_mem i20
  obtain ⟨q0, h21⟩ := List.getElem?_of_mem i21
  have c0 : (nI 0).toNatClampNeg = 0 := by decide
  have cn : (nI n).toNatClampNeg = n := nI_clamp (by omega)
  refine va_copyi (sp := nI 0) (dp := nI 0) (n := nI n) hx hb (hm.trans hL.1.symm) hown (hts _ ac_lk5) (hts _ ac_nt) (hts _ ac_st) (hts _ ac_in) hK (wsA_P hR) (wsA_D hi) hS q0 q1 0 0 (n0 := 576) (n1 := 576) (f := ga S 21 j) (g := ga S 20 j) (ty := .int) ?_ ?_ rfl rfl rfl (by decide) (by decide) ?_ ?_ ?_ ?_ ?_ ?_ dX5_sort_95 ?_
  · unfold wsA; rw [List.getElem?_map, h21]; rfl
  · unfold wsA; rw [List.getElem?_map, h20]; rfl
  · exact (show ¬ nI n < nI 0 from nI_nlt (by omega) (by omega))
  · rw [c0, cn]; omega
  · rw [c0, cn]; omega
  · intro i _; rfl
  · show 1 ≤ h + 1; omega
  · show 0 + _ ≤ 64 * (h + 1)
    have : nativeFrameWords "java/lang/System" "arraycopy" 5 + 11 ≤ 64 := by decide
    omega
  · intro H1 locs1 hP1 hD1 hS1
    rw [c0, cn, cpy_0] at hP1
    refine k p l e _ s m args below meth cc D ad cA G' H1 locs1 ls ?_ hS1 hL
    refine wsA_R (c := 20) (j := j) h20 LY_20 (fun c' j' kd' hd => en_sa kd' hd) ?_
    have e : en ad cA (sa S 20 j (fun i => if i < n then ga S 21 j i else ga S 20 j i)) 20 j (.inr (0, 576, 0)) = .inl (cA 0, 576, .inl (fun i => if i < n then ga S 21 j i else ga S 20 j i)) := by
      simp only [en, ga_sa, and_self, reduceIte]
    exact e ▸ hP1
