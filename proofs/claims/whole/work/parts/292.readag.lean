-- deps: 291
-- what reading leaves alone
def pk6 (c : Nat) : Bool := decide (c = 6 ∨ (22 ≤ c ∧ c ≤ 28))
def AGf (rf : RF) : Prop := ∀ (s : PS) (S : ST), AG pk6 S (rf s S).2.2
section
variable (T : WL)
theorem AG_adT (S : ST) (c : Nat) (x : Int32) : AG pk6 S (adT S c x) := AG_si (AG_sa (AG_sa AG_refl rfl) rfl) rfl
theorem AG_adC (S : ST) (c : Nat) (x y : Int32) : AG pk6 S (adC S c x y) := AG_si (AG_sa (AG_sa AG_refl rfl) rfl) rfl
theorem AG_adV (S : ST) (c : Nat) (x y : Int32) : AG pk6 S (adV S c x y) := AG_si (AG_sa (AG_sa AG_refl rfl) rfl) rfl
theorem AG_adI (S : ST) (c : Nat) (x : Int32) (n : Nat) : AG pk6 S (adI S c x n) := AG_si (AG_sa (AG_sa AG_refl rfl) rfl) rfl
theorem AGf_tk (k : Int32) : AGf (rTk T k) := by
  intro s S
  unfold rTk
  split <;> exact AG_refl
theorem AGf_tab (c : Nat) : AGf (rTable T c) := by
  intro s S
  rw [rTable_st]
  exact AG_adT _ _ _
theorem AGf_col (c : Nat) : AGf (rColumn T c) := by
  intro s S
  unfold rColumn
  (repeat' split) <;> first | exact AG_adC _ _ _ _ | exact AG_refl
theorem AGf_val (c : Nat) : AGf (rValue T c) := by
  intro s S
  unfold rValue
  (repeat' split) <;> first | exact AG_adV _ _ _ _ | exact AG_refl
theorem AGf_itm (c : Nat) : AGf (rItem T c) := by
  intro s S
  unfold rItem
  (repeat' split) <;> exact AG_adI _ _ _ _
theorem AGf_asg (c : Nat) : AGf (rAssign T c) := by
  intro s S
  have : ∀ x n, AG pk6 S (adI (si S 6 11 0 x) c (-1) n) := fun x n => AG_trans (AG_si AG_refl rfl) (AG_adI _ _ _ _)
  unfold rAssign
  (repeat' split) <;> exact this _ _
theorem AGf_whe : AGf (rWhere T) := by
  intro s S
  unfold rWhere
  split
  · exact AG_si AG_refl rfl
  · exact AG_refl
theorem AGf_grp : AGf (rGroup T) := by
  intro s S
  unfold rGroup
  split
  · exact AG_si AG_refl rfl
  · exact AG_refl
theorem AGf_ord : AGf (rOrder T) := by
  intro s S
  unfold rOrder
  (repeat' split) <;> first | exact AG_sz (AG_si AG_refl rfl) rfl | exact AG_si AG_refl rfl | exact AG_refl
theorem AGf_com : AGf (rComma T) := by
  intro s S
  unfold rComma
  split
  · exact AGf_tab T 1 _ S
  · exact AG_refl
theorem AGf_then {f g : RF} (hf : AGf f) (hg : AGf g) : AGf (rThen f g) := by
  intro s S
  unfold rThen
  split
  · exact AG_trans (hf s S) (hg _ _)
  · exact hf s S
theorem AGf_ps {f : Nat → RF} (hf : ∀ c, AGf (f c)) : ∀ m c, AGf (rPs T f m c) := by
  intro m
  induction m with
  | zero => intro c s S; exact AG_refl
  | succ m ih =>
    intro c s S
    rw [rPs]
    simp only
    split
    · split
      · exact AG_trans (hf c s S) (ih _ _ _)
      · exact hf c s S
    · exact hf c s S
theorem AG_clr (S : ST) (k : Int32) : AG pk6 S (sclr S k) := AG_sz (AG_si (AG_si (AG_si (AG_si (AG_si (AG_si (AG_si (AG_si AG_refl rfl) rfl) rfl) rfl) rfl) rfl) rfl) rfl) rfl
theorem AG_read (S : ST) : AG pk6 S (rRead T S).2.2 := by
  unfold rRead
  split
  · exact AG_trans (AG_clr S _) (AGf_then (AGf_tab T 0) (AGf_then (AGf_tk T _) (AGf_then (AGf_ps T (AGf_col T) 4 0) (AGf_tk T _))) _ _)
  split
  · exact AG_trans (AG_clr S _) (AGf_then (AGf_tab T 0) (AGf_then (AGf_tk T _) (AGf_then (AGf_ps T (AGf_val T) 4 0) (AGf_tk T _))) _ _)
  split
  · exact AG_trans (AG_clr S _) (AGf_then (AGf_tab T 0) (AGf_whe T) _ _)
  split
  · exact AG_trans (AG_clr S _) (AGf_then (AGf_tab T 0) (AGf_then (AGf_tk T _) (AGf_then (AGf_asg T 0) (AGf_whe T))) _ _)
  split
  · exact AG_trans (AG_clr S _) (AGf_then (AGf_ps T (AGf_itm T) 4 0) (AGf_then (AGf_tk T _) (AGf_then (AGf_tab T 0) (AGf_then (AGf_com T) (AGf_then (AGf_whe T) (AGf_then (AGf_grp T) (AGf_ord T)))))) _ _)
  · exact AG_clr S _
end
/-- behind the end of a statement stands nothing -/
def okE {α : Type} (T : WL) (x : Nat × Option α) : Nat × Option α := pb x (fun a y => if kd T a = nI 0 then (a, some y) else (a, none))
/-- what the reader answers and leaves, for a statement of one kind -/
theorem rd_of {α : Type} {T : WL} {S : ST} {q : Bool × PS × ST} {x : Nat × Option α} {post : α → WL × ST} {rf : RF} (hq : q = rf (1, []) S) (hR : RM rf 1 [] S x post) {r : Option AV} {S' : ST} (h : RdQ T q r S') : ((okE T x).2 = none ∧ r = some (vI ((-1) - nI (okE T x).1)) ∧ (okE T x).1 = q.2.1.1) ∨ (∃ y, (okE T x).2 = some y ∧ r = some (vI (nI 0)) ∧ q = (true, ((okE T x).1, (post y).1), (post y).2)) := by
  obtain ⟨g1, g2, hr, _⟩ := h
  subst hq
  unfold RM at hR
  unfold okE pb
  cases hx : x.2 with
  | none =>
    rw [hx] at hR
    simp only at hR ⊢
    left
    rw [hr, if_neg (by rw [hR.1]; simp), hR.2]
    exact ⟨trivial, rfl, rfl⟩
  | some y =>
    rw [hx] at hR
    simp only at hR ⊢
    by_cases q0 : kd T x.1 = nI 0
    · rw [if_pos q0]
      right
      refine ⟨y, rfl, ?_, hR⟩
      rw [hr, hR, if_pos ⟨rfl, q0⟩]
    · rw [if_neg q0]
      left
      rw [hr, hR, if_neg (fun z => q0 z.2)]
      exact ⟨rfl, rfl, rfl⟩
