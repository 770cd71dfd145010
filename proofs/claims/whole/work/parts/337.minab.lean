-- deps: 336
-- the model: insert, the tables behind it
theorem AbsM_in (C : ST) (d : DB) (t : Nat) (l : List (Int32 × Int32)) (g5 : Nat → Int32) (g6 : Nat → Bool) (hA : AbsM C d) (ht : t < dC d) (hr : dR d t < 24) (hl : l.length = dK d t) (h1 : ∀ i, i < l.length → g5 (96 * t + 4 * dR d t + i) = inV (l2 l) (l1 l) i ∧ g6 (96 * t + 4 * dR d t + i) = inM (l2 l) i) (h2 : ∀ i, i < 96 * t + 4 * dR d t ∨ 96 * t + 4 * dR d t + l.length ≤ i → g5 i = ga C 55 0 i ∧ g6 i = gy C 56 0 i) : AbsM (inR C t (dR d t) g5 g6) (inD d t (dK d t) (l2 l) (l1 l)) := by
  refine ⟨by simp only [inR, wN, gi_si, gi_sl, gi_sz, gi_sr, gi_sa, gi_sb, gi_sy, gl_si, gl_sl, gl_sz, gl_sr, gl_sa, gl_sb, gl_sy, gz_si, gz_sl, gz_sz, gz_sr, gz_sa, gz_sb, gz_sy, gr_si, gr_sl, gr_sz, gr_sr, gr_sa, gr_sb, gr_sy, ga_si, ga_sl, ga_sz, ga_sr, ga_sa, ga_sb, ga_sy, gb_si, gb_sl, gb_sz, gb_sr, gb_sa, gb_sb, gb_sy, gy_si, gy_sl, gy_sz, gy_sr, gy_sa, gy_sb, gy_sy, reduceIte, Nat.reduceEqDiff, and_true, true_and, and_self, false_and, and_false]; exact hA.1, hA.2.1, ?_⟩
  intro u hu
  have hu : u < dC d := hu
  have b4t := (hA.2.2 t ht).2.1.2.2.1
  have h4 := hA.2.1
  obtain ⟨b1, ⟨b2, b3, b4, b5⟩, b6⟩ := hA.2.2 u hu
  simp only [inR, wN, gi_si, gi_sl, gi_sz, gi_sr, gi_sa, gi_sb, gi_sy, gl_si, gl_sl, gl_sz, gl_sr, gl_sa, gl_sb, gl_sy, gz_si, gz_sl, gz_sz, gz_sr, gz_sa, gz_sb, gz_sy, gr_si, gr_sl, gr_sz, gr_sr, gr_sa, gr_sb, gr_sy, ga_si, ga_sl, ga_sz, ga_sr, ga_sa, ga_sb, ga_sy, gb_si, gb_sl, gb_sz, gb_sr, gb_sa, gb_sb, gb_sy, gy_si, gy_sl, gy_sz, gy_sr, gy_sa, gy_sb, gy_sy, reduceIte, Nat.reduceEqDiff, and_true, true_and, and_self, false_and, and_false]
  have eR : dR (inD d t (dK d t) (l2 l) (l1 l)) u = up1 (dR d) t (dR d t + 1) u := rfl
  have eV : dV (inD d t (dK d t) (l2 l) (l1 l)) u = up1 (dV d) t (colO (inV (l2 l) (l1 l)) (dR d t) (dK d t) 0 (dV d t)) u := rfl
  have eM : dM (inD d t (dK d t) (l2 l) (l1 l)) u = up1 (dM d) t (colO (inM (l2 l)) (dR d t) (dK d t) 0 (dM d t)) u := rfl
  refine ⟨b1, ⟨b2, ?_, b4, ?_⟩, ?_⟩
  · rw [eR]
    by_cases q : u = t
    · subst q; simp [up1]
    · simp only [up1, q, reduceIte]; exact b3
  · rw [eR]
    by_cases q : u = t
    · subst q; simp only [up1, reduceIte]; omega
    · simp only [up1, q, reduceIte]; exact b5
  · intro c hc
    have hc : c < dK d u := hc
    refine ⟨(b6 c hc).1, fun r hr' => ?_⟩
    rw [eR] at hr'
    rw [eV, eM]
    by_cases q : u = t
    · subst q
      simp only [up1, reduceIte] at hr' ⊢
      by_cases qr : r = dR d u
      · subst qr
        rw [colO_in (by omega) (by omega), colO_in (by omega) (by omega)]
        exact h1 c (by omega)
      · have := h2 (96 * u + 4 * r + c) (Or.inl (by omega))
        rw [this.1, this.2, colO_out (fun y _ _ => by omega), colO_out (fun y _ _ => by omega)]
        exact (b6 c hc).2 r (by omega)
    · simp only [up1, q, reduceIte] at hr' ⊢
      have := h2 (96 * u + 4 * r + c) (by omega)
      rw [this.1, this.2]
      exact (b6 c hc).2 r hr'
