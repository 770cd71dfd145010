section
variable {M : MD} {h pc : Nat} {L : LVs} {st : List AV} {S : ST} {Q : Option AV → ST → Prop} {N : KK}
theorem v_max {idx : Nat} (d : decode M.2.1 pc = .ok (.invokestatic idx, 3)) (hl : Cond.methodLink M.1.cls idx Lib.Math.max.name ∈ wT) (hN : ∀ L st S, N L st S → V M (h + 1) (pc + 3) L st S Q) (k : o_max L st S N) : V M (h + 1) pc L st S Q := by
  unfold o_max at k
  split at k
  · obtain ⟨hw, k⟩ := k
    intro p l e R s m args below meth cc D ad cA G H locs ls hR hS hL
    have G' := G
    obtain ⟨hx, hb, hrt, hm, hown, hts, hK, hlk, rfl, hi, hks⟩ := G
    exact va_mmax hx hb (hm.trans hL.1.symm) hown (hts _ hl) (hts _ mx_st) (hts _ ma_in) (hts _ mx_cd) (by show 1 ≤ h + 1; omega) (by rw [wid_tv]; show _ + 13 ≤ 64 * (h + 1); omega) (Nat.zero_le _) (Nat.zero_le _) d (hN _ _ _ k p l e _ s m args below meth cc D ad cA G' H locs ls hR hS hL)
  · exact k.elim
theorem v_min {idx : Nat} (d : decode M.2.1 pc = .ok (.invokestatic idx, 3)) (hl : Cond.methodLink M.1.cls idx Lib.Math.min.name ∈ wT) (hN : ∀ L st S, N L st S → V M (h + 1) (pc + 3) L st S Q) (k : o_min L st S N) : V M (h + 1) pc L st S Q := by
  unfold o_min at k
  split at k
  · obtain ⟨hw, k⟩ := k
    intro p l e R s m args below meth cc D ad cA G H locs ls hR hS hL
    have G' := G
    obtain ⟨hx, hb, hrt, hm, hown, hts, hK, hlk, rfl, hi, hks⟩ := G
    exact va_mmin hx hb (hm.trans hL.1.symm) hown (hts _ hl) (hts _ mn_st) (hts _ ma_in) (hts _ mn_cd) (by show 1 ≤ h + 1; omega) (by rw [wid_tv]; show _ + 13 ≤ 64 * (h + 1); omega) (Nat.zero_le _) (Nat.zero_le _) d (hN _ _ _ k p l e _ s m args below meth cc D ad cA G' H locs ls hR hS hL)
  · exact k.elim
theorem v_lmax {idx : Nat} (d : decode M.2.1 pc = .ok (.invokestatic idx, 3)) (hl : Cond.methodLink M.1.cls idx Lib.MathLoose.max_long.x ∈ wT) (hN : ∀ L st S, N L st S → V M (h + 1) (pc + 3) L st S Q) (k : o_lmax L st S N) : V M (h + 1) pc L st S Q := by
  unfold o_lmax at k
  split at k
  · obtain ⟨hw, k⟩ := k
    intro p l e R s m args below meth cc D ad cA G H locs ls hR hS hL
    have G' := G
    obtain ⟨hx, hb, hrt, hm, hown, hts, hK, hlk, rfl, hi, hks⟩ := G
    exact va_mmax_long hx hb (hm.trans hL.1.symm) hown (hts _ hl) (hts _ lx_st) (hts _ ma_in) (hts _ lx_cd) (by show 1 ≤ h + 1; omega) (by rw [wid_tv]; show _ + 15 ≤ 64 * (h + 1); omega) (Nat.zero_le _) (Nat.zero_le _) d (hN _ _ _ k p l e _ s m args below meth cc D ad cA G' H locs ls hR hS hL)
  · exact k.elim
theorem v_lmin {idx : Nat} (d : decode M.2.1 pc = .ok (.invokestatic idx, 3)) (hl : Cond.methodLink M.1.cls idx Lib.MathLoose.min_long.x ∈ wT) (hN : ∀ L st S, N L st S → V M (h + 1) (pc + 3) L st S Q) (k : o_lmin L st S N) : V M (h + 1) pc L st S Q := by
  unfold o_lmin at k
  split at k
  · obtain ⟨hw, k⟩ := k
    intro p l e R s m args below meth cc D ad cA G H locs ls hR hS hL
    have G' := G
    obtain ⟨hx, hb, hrt, hm, hown, hts, hK, hlk, rfl, hi, hks⟩ := G
    exact va_mmin_long hx hb (hm.trans hL.1.symm) hown (hts _ hl) (hts _ ln_st) (hts _ ma_in) (hts _ ln_cd) (by show 1 ≤ h + 1; omega) (by rw [wid_tv]; show _ + 15 ≤ 64 * (h + 1); omega) (Nat.zero_le _) (Nat.zero_le _) d (hN _ _ _ k p l e _ s m args below meth cc D ad cA G' H locs ls hR hS hL)
  · exact k.elim
end
