-- deps: 217
-- runs merged; sorted and onto
/-- two runs merged: b goes first if its rank is less -/
def mg (rk : Nat → Int) : List Nat → List Nat → List Nat
  | [], B => B
  | A, [] => A
  | a :: A, b :: B => if rk b < rk a then b :: mg rk (a :: A) B else a :: mg rk A (b :: B)
termination_by A B => A.length + B.length
theorem mg_nil (rk : Nat → Int) (B : List Nat) : mg rk [] B = B := by rw [mg]
theorem mg_nil2 (rk : Nat → Int) (A : List Nat) : mg rk A [] = A := by
  cases A with
  | nil => rw [mg]
  | cons a A => rw [mg]; exact fun h => by simp at h
theorem mg_r (rk : Nat → Int) (a b : Nat) (A B : List Nat) (h : rk b < rk a) : mg rk (a :: A) (b :: B) = b :: mg rk (a :: A) B := by rw [mg, if_pos h]
theorem mg_l (rk : Nat → Int) (a b : Nat) (A B : List Nat) (h : ¬ rk b < rk a) : mg rk (a :: A) (b :: B) = a :: mg rk A (b :: B) := by rw [mg, if_neg h]
def lx (rk : Nat → Int) (a b : Nat) : Prop := rk a < rk b ∨ (rk a = rk b ∧ a < b)
theorem mg_perm (rk : Nat → Int) : ∀ (n : Nat) (A B : List Nat), A.length + B.length = n → (mg rk A B).Perm (A ++ B) := by
  intro n
  induction n with
  | zero =>
    intro A B h
    have hA : A = [] := List.eq_nil_of_length_eq_zero (by omega)
    subst hA
    rw [mg_nil]
    exact List.Perm.refl _
  | succ n ih =>
    intro A B h
    cases A with
    | nil => rw [mg_nil]; exact List.Perm.refl _
    | cons a A =>
      cases B with
      | nil => rw [mg_nil2, List.append_nil]
      | cons b B =>
        simp only [List.length_cons] at h
        by_cases hr : rk b < rk a
        · rw [mg_r _ _ _ _ _ hr]
          exact ((ih (a :: A) B (by simp only [List.length_cons]; omega)).cons b).trans (List.perm_middle.symm)
        · rw [mg_l _ _ _ _ _ hr]
          exact (ih A (b :: B) (by simp only [List.length_cons]; omega)).cons a
theorem mg_sorted (rk : Nat → Int) : ∀ (n : Nat) (A B : List Nat), A.length + B.length = n → A.Pairwise (lx rk) → B.Pairwise (lx rk) → (∀ a, a ∈ A → ∀ b, b ∈ B → a < b) → (mg rk A B).Pairwise (lx rk) := by
  intro n
  induction n with
  | zero =>
    intro A B h hA hB hl
    have hA : A = [] := List.eq_nil_of_length_eq_zero (by omega)
    subst hA
    rw [mg_nil]
    exact hB
  | succ n ih =>
    intro A B h hA hB hl
    cases A with
    | nil => rw [mg_nil]; exact hB
    | cons a A =>
      cases B with
      | nil => rw [mg_nil2]; exact hA
      | cons b B =>
        simp only [List.length_cons] at h
        have hab := hl a (by simp) b (by simp)
        by_cases hr : rk b < rk a
        · rw [mg_r _ _ _ _ _ hr]
          refine List.Pairwise.cons ?_ (ih (a :: A) B (by simp only [List.length_cons]; omega) hA (List.Pairwise.of_cons hB) (fun x hx y hy => hl x hx y (by simp [hy])))
          intro x hx
          rw [(mg_perm rk _ (a :: A) B rfl).mem_iff, List.mem_append] at hx
          rcases hx with hx | hx
          · rcases List.mem_cons.mp hx with rfl | hx
            · exact Or.inl hr
            · have := (List.pairwise_cons.mp hA).1 x hx
              unfold lx at *
              omega
          · exact (List.pairwise_cons.mp hB).1 x hx
        · rw [mg_l _ _ _ _ _ hr]
          refine List.Pairwise.cons ?_ (ih A (b :: B) (by simp only [List.length_cons]; omega) (List.Pairwise.of_cons hA) hB (fun x hx y hy => hl x (by simp [hx]) y hy))
          intro x hx
          rw [(mg_perm rk _ A (b :: B) rfl).mem_iff, List.mem_append] at hx
          rcases hx with hx | hx
          · exact (List.pairwise_cons.mp hA).1 x hx
          · rcases List.mem_cons.mp hx with rfl | hx
            · unfold lx; omega
            · have := (List.pairwise_cons.mp hB).1 x hx
              unfold lx at *
              omega
/-- one pass over runs of width w -/
def ps (rk : Nat → Int) (w : Nat) : Nat → List Nat → List Nat
  | 0, _ => []
  | f + 1, l => if l = [] then [] else mg rk (l.take w) ((l.drop w).take w) ++ ps rk w f (l.drop (2 * w))
/-- every run of width w, from the base b on, is sorted and holds its own numbers -/
def RW (rk : Nat → Int) (w : Nat) : Nat → Nat → List Nat → Prop
  | 0, _, l => l = []
  | f + 1, b, l => l = [] ∨ ((l.take w).Pairwise (lx rk) ∧ (l.take w).Perm (List.range' b (l.take w).length) ∧ RW rk w f (b + w) (l.drop w))
theorem RW_ps (rk : Nat → Int) (w : Nat) (hw : 0 < w) : ∀ (f b : Nat) (l : List Nat), RW rk w (2 * f) b l → RW rk (2 * w) f b (ps rk w f l) ∧ (ps rk w f l).length = l.length := by
  intro f
  induction f with
  | zero =>
    intro b l h
    simp only [RW] at h
    subst h
    exact ⟨rfl, rfl⟩
  | succ f ih =>
    intro b l h
    by_cases hl : l = []
    · subst hl
      refine ⟨Or.inl ?_, ?_⟩ <;> simp [ps]
    rw [show 2 * (f + 1) = (2 * f + 1) + 1 by omega] at h
    rcases h with h | ⟨h1, h2, h3⟩
    · exact absurd h hl
    have hq : ((l.drop w).take w).Pairwise (lx rk) ∧ ((l.drop w).take w).Perm (List.range' (b + w) ((l.drop w).take w).length) ∧ RW rk w (2 * f) (b + w + w) (l.drop (2 * w)) := by
      rcases h3 with h3 | ⟨h3, h4, h5⟩
      · have e : l.drop (2 * w) = [] := by rw [show 2 * w = w + w by omega, ← List.drop_drop, h3]; simp
        rw [h3, e]
        refine ⟨by simp, by simp, ?_⟩
        cases f with
        | zero => rfl
        | succ f => exact Or.inl rfl
      · rw [show 2 * w = w + w by omega, ← List.drop_drop]
        exact ⟨h3, h4, h5⟩
    obtain ⟨q1, q2, q3⟩ := hq
    have hi := ih (b + w + w) (l.drop (2 * w)) q3
    rw [ps, if_neg hl]
    have hlen : (mg rk (l.take w) ((l.drop w).take w)).length = min (2 * w) l.length := by
      rw [(mg_perm rk _ _ _ rfl).length_eq, List.length_append, List.length_take, List.length_take, List.length_drop]
      omega
    refine ⟨?_, ?_⟩
    · have hp := mg_perm rk _ (l.take w) ((l.drop w).take w) rfl
      have hs := mg_sorted rk _ (l.take w) ((l.drop w).take w) rfl h1 q1 (by
        intro x hx y hy
        have hx := (h2.mem_iff).mp hx
        have hy := (q2.mem_iff).mp hy
        rw [List.mem_range'_1] at hx hy
        have : (l.take w).length ≤ w := by rw [List.length_take]; omega
        omega)
      have hper : (mg rk (l.take w) ((l.drop w).take w)).Perm (List.range' b (min (2 * w) l.length)) := by
        refine hp.trans ((h2.append q2).trans ?_)
        rw [List.length_take, List.length_take, List.length_drop]
        by_cases hc : l.length ≤ w
        · rw [show min w (l.length - w) = 0 by omega, show min (2 * w) l.length = min w l.length by omega]
          simp
        · rw [show min w l.length = w by omega, show min (2 * w) l.length = w + min w (l.length - w) by omega, ← List.range'_append_1]
      refine Or.inr ?_
      by_cases hc : 2 * w ≤ l.length
      · have e1 : (mg rk (l.take w) ((l.drop w).take w) ++ ps rk w f (l.drop (2 * w))).take (2 * w) = mg rk (l.take w) ((l.drop w).take w) := by rw [List.take_append_of_le_length (by omega), List.take_of_length_le (by omega)]
        have e2 : (mg rk (l.take w) ((l.drop w).take w) ++ ps rk w f (l.drop (2 * w))).drop (2 * w) = ps rk w f (l.drop (2 * w)) := by rw [List.drop_append_of_le_length (by omega), List.drop_of_length_le (by omega), List.nil_append]
        rw [e1, e2, hlen]
        exact ⟨hs, hper, by rw [show b + 2 * w = b + w + w by omega]; exact hi.1⟩
      · have e0 : l.drop (2 * w) = [] := List.drop_of_length_le (by omega)
        have e3 : ps rk w f (l.drop (2 * w)) = [] := by rw [e0]; cases f <;> simp [ps]
        rw [e3, List.append_nil]
        clear hp e3 hi
        generalize mg rk (l.take w) ((l.drop w).take w) = M at *
        rw [List.take_of_length_le (by omega), List.drop_of_length_le (by omega), hlen]
        refine ⟨hs, hper, ?_⟩
        cases f with
        | zero => rfl
        | succ f => exact Or.inl rfl
    · rw [List.length_append, hlen, hi.2, List.length_drop]
      omega
theorem RW_f {rk : Nat → Int} {w : Nat} : ∀ {f b : Nat} {l : List Nat} (f' : Nat), RW rk w f b l → f ≤ f' → RW rk w f' b l := by
  intro f
  induction f with
  | zero =>
    intro b l f' h hf
    simp only [RW] at h
    subst h
    cases f' with
    | zero => rfl
    | succ f => exact Or.inl rfl
  | succ f ih =>
    intro b l f' h hf
    obtain ⟨f', rfl⟩ : ∃ k, f' = k + 1 := ⟨f' - 1, by omega⟩
    rcases h with h | ⟨h1, h2, h3⟩
    · exact Or.inl h
    · exact Or.inr ⟨h1, h2, ih f' h3 (by omega)⟩
theorem RW_len {rk : Nat → Int} {w : Nat} (hw : 0 < w) : ∀ {f b : Nat} {l : List Nat}, RW rk w f b l → RW rk w l.length b l := by
  intro f
  induction f with
  | zero => intro b l h; simp only [RW] at h; subst h; rfl
  | succ f ih =>
    intro b l h
    rcases h with h | ⟨h1, h2, h3⟩
    · subst h; rfl
    · cases l with
      | nil => rfl
      | cons a l =>
        have := ih h3
        exact Or.inr ⟨h1, h2, RW_f _ this (by rw [List.length_drop]; simp; omega)⟩
/-- passes with doubled widths -/
def srt (rk : Nat → Int) : Nat → Nat → List Nat → List Nat
  | 0, _, l => l
  | f + 1, w, l => if w < l.length then srt rk f (2 * w) (ps rk w l.length l) else l
theorem RW_1 (rk : Nat → Int) : ∀ (n b : Nat), RW rk 1 n b (List.range' b n) := by
  intro n
  induction n with
  | zero => intro b; rfl
  | succ n ih =>
    intro b
    refine Or.inr ?_
    rw [List.range'_succ]
    simp only [List.take_succ_cons, List.take_zero, List.drop_succ_cons, List.drop_zero]
    exact ⟨by simp, by simp, ih (b + 1)⟩
theorem srt_ok (rk : Nat → Int) : ∀ (f w b : Nat) (l : List Nat), 0 < w → l.length ≤ w * 2 ^ f → RW rk w l.length b l → (srt rk f w l).Pairwise (lx rk) ∧ (srt rk f w l).Perm (List.range' b l.length) := by
  intro f
  induction f with
  | zero =>
    intro w b l hw hl h
    simp only [Nat.pow_zero, Nat.mul_one] at hl
    cases l with
    | nil => simp [srt]
    | cons a l =>
      rcases h with h | ⟨h1, h2, h3⟩
      · simp at h
      · rw [List.take_of_length_le hl] at h1 h2
        exact ⟨h1, h2⟩
  | succ f ih =>
    intro w b l hw hl h
    rw [srt]
    split
    · have := RW_ps rk w hw l.length b l (RW_f _ h (by omega))
      have h2 := RW_len (by omega) this.1
      have h3 := ih (2 * w) b (ps rk w l.length l) (by omega) (by rw [this.2]; rw [Nat.pow_succ] at hl; rw [Nat.mul_comm 2 w, Nat.mul_assoc, Nat.mul_comm 2]; exact hl) h2
      rw [this.2] at h3
      exact h3
    · cases l with
      | nil => simp
      | cons a l =>
        rcases h with h | ⟨h1, h2, h3⟩
        · simp at h
        · rw [List.take_of_length_le (by omega)] at h1 h2
          exact ⟨h1, h2⟩
/-- sorted and onto: one and no other -/
def SO (rk : Nat → Int) (n : Nat) (p : Nat → Nat) : Prop := (∀ i j, i < j → j < n → lx rk (p i) (p j)) ∧ (∀ i, i < n → p i < n) ∧ ∀ x, x < n → ∃ i, i < n ∧ p i = x
theorem SO_one {rk : Nat → Int} {n : Nat} {p q : Nat → Nat} (hp : SO rk n p) (hq : SO rk n q) : ∀ i, i < n → p i = q i := by
  intro i
  induction i using Nat.strongRecOn with
  | _ i ih =>
    intro hi
    have key : ∀ {p q : Nat → Nat}, SO rk n p → SO rk n q → (∀ j, j < i → p j = q j) → q i = p i ∨ lx rk (p i) (q i) := by
      intro p q hp hq he
      obtain ⟨j, hj, e⟩ := hp.2.2 (q i) (hq.2.1 i hi)
      rcases Nat.lt_trichotomy j i with h | h | h
      · have h1 := he j h
        have h2 := hq.1 j i h hi
        rw [← h1, e] at h2
        unfold lx at h2
        omega
      · subst h; exact Or.inl e.symm
      · have := hp.1 i j h hj
        rw [e] at this
        exact Or.inr this
    have h1 := key hp hq (fun j hj => ih j hj (by omega))
    have h2 := key hq hp (fun j hj => (ih j hj (by omega)).symm)
    unfold lx at h1 h2
    omega
theorem SO_srt (rk : Nat → Int) (n : Nat) (f : Nat) (hf : n ≤ 2 ^ f) : (srt rk f 1 (List.range' 0 n)).length = n ∧ SO rk n (fun i => (srt rk f 1 (List.range' 0 n)).getD i 0) := by
  have h := srt_ok rk f 1 0 (List.range' 0 n) (by decide) (by rw [List.length_range', Nat.one_mul]; exact hf) (by rw [List.length_range']; exact RW_1 rk n 0)
  rw [List.length_range'] at h
  generalize srt rk f 1 (List.range' 0 n) = l at h
  have hl : l.length = n := by rw [h.2.length_eq, List.length_range']
  refine ⟨hl, ?_, ?_, ?_⟩
  · intro i j hij hj
    have := List.pairwise_iff_getElem.mp h.1 i j (by omega) (by omega) hij
    simpa [List.getD, hl, hj, show i < n by omega] using this
  · intro i hi
    have : l[i]'(by omega) ∈ l := List.getElem_mem _
    rw [h.2.mem_iff, List.mem_range'_1] at this
    simp [List.getD, hl, hi]
    omega
  · intro x hx
    have : x ∈ l := by rw [h.2.mem_iff, List.mem_range'_1]; omega
    obtain ⟨i, hi, e⟩ := List.getElem_of_mem this
    exact ⟨i, by omega, by simp [List.getD, hi, e]⟩
theorem ps_len (rk : Nat → Int) (w : Nat) (hw : 0 < w) : ∀ (f : Nat) (l : List Nat), l.length ≤ f * (2 * w) → (ps rk w f l).length = l.length := by
  intro f
  induction f with
  | zero =>
    intro l hl
    have : l = [] := List.eq_nil_of_length_eq_zero (by omega)
    subst this
    rfl
  | succ f ih =>
    intro l hl
    rw [Nat.succ_mul] at hl
    by_cases hq : l = []
    · subst hq; simp [ps]
    · rw [ps, if_neg hq, List.length_append, ih _ (by rw [List.length_drop]; omega), (mg_perm rk _ _ _ rfl).length_eq, List.length_append, List.length_take, List.length_take, List.length_drop, List.length_drop]
      omega
theorem ps_mem (rk : Nat → Int) (w : Nat) : ∀ (f : Nat) (l : List Nat) (x : Nat), x ∈ ps rk w f l → x ∈ l := by
  intro f
  induction f with
  | zero => intro l x h; simp [ps] at h
  | succ f ih =>
    intro l x h
    by_cases hq : l = []
    · subst hq; simp [ps] at h
    · rw [ps, if_neg hq, List.mem_append, (mg_perm rk _ _ _ rfl).mem_iff, List.mem_append] at h
      rcases h with (h | h) | h
      · exact List.mem_of_mem_take h
      · exact List.mem_of_mem_drop (List.mem_of_mem_take h)
      · exact List.mem_of_mem_drop (ih _ x h)
theorem take_range'' (i n w : Nat) : (List.range' i n).take w = List.range' i (min w n) := by
  apply List.ext_getElem
  · simp
  · intro k h1 h2
    simp
theorem drop_range'' (i n w : Nat) : (List.range' i n).drop w = List.range' (i + w) (n - w) := by simp [List.drop_range']
