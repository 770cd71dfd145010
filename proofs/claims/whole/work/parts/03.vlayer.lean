/-! THE V LAYER: the machine over one fixed layout of cells. A value is an int, a long or a cell (kind, instance); a state is what the cells hold. -/
abbrev AV : Type := Int32 ⊕ Int64 ⊕ (Nat × Nat)
abbrev vI (x : Int32) : AV := .inl x
abbrev vL (x : Int64) : AV := .inr (.inl x)
abbrev vR (c j : Nat) : AV := .inr (.inr (c, j))
def tv (ad : Nat → Nat → Nat) (v : AV) : Value := match v with
  | .inl x => .int x
  | .inr (.inl x) => .long x
  | .inr (.inr (c, j)) => .ref (ad c j)
def b2i (b : Bool) : Int32 := if b = true then nI 1 else nI 0
theorem b2i_eq0 (b : Bool) : (b2i b = nI 0) = (b = false) := by cases b <;> simp [b2i] <;> decide
theorem b2i_eq1 (b : Bool) : (b2i b = nI 1) = (b = true) := by cases b <;> simp [b2i] <;> decide
theorem b2i_inj (a b : Bool) : (b2i a = b2i b) = (a = b) := by cases a <;> cases b <;> simp [b2i] <;> decide
theorem b2i_01 (b : Bool) : (b2i b = nI 0 ∨ b2i b = nI 1) = True := by cases b <;> simp [b2i]
theorem b2i_d (b : Bool) : decide (b2i b = nI 1) = b := by cases b <;> simp [b2i] <;> decide
theorem b2i_t : b2i true = nI 1 := rfl
theorem b2i_f : b2i false = nI 0 := rfl
theorem z01 : (nI 0 = nI 1) = False := by simp; decide
theorem z10 : (nI 1 = nI 0) = False := by simp; decide
theorem d10 : decide (nI 1 = nI 1) = true := by decide
theorem d01 : decide (nI 0 = nI 1) = false := by decide
/-- fields (kind, place, instance): ints, longs, booleans, cells (an instance); arrays (kind, instance): ints, longs, booleans -/
abbrev ST : Type := (Nat → Nat → Nat → Int32) × (Nat → Nat → Nat → Int64) × (Nat → Nat → Nat → Bool) × (Nat → Nat → Nat → Nat) × (Nat → Nat → Nat → Int32) × (Nat → Nat → Nat → Int64) × (Nat → Nat → Nat → Bool)
def gi (s : ST) (c k j : Nat) : Int32 := s.1 c k j
def gl (s : ST) (c k j : Nat) : Int64 := s.2.1 c k j
def gz (s : ST) (c k j : Nat) : Bool := s.2.2.1 c k j
def gr (s : ST) (c k j : Nat) : Nat := s.2.2.2.1 c k j
def ga (s : ST) (c j : Nat) : Nat → Int32 := s.2.2.2.2.1 c j
def gb (s : ST) (c j : Nat) : Nat → Int64 := s.2.2.2.2.2.1 c j
def gy (s : ST) (c j : Nat) : Nat → Bool := s.2.2.2.2.2.2 c j
def up3 {α : Type} (f : Nat → Nat → Nat → α) (c k j : Nat) (x : α) : Nat → Nat → Nat → α := fun c' k' j' => if c' = c ∧ k' = k ∧ j' = j then x else f c' k' j'
def up2 {α : Type} (f : Nat → Nat → Nat → α) (c j : Nat) (g : Nat → α) : Nat → Nat → Nat → α := fun c' j' => if c' = c ∧ j' = j then g else f c' j'
def up1 {α : Type} (f : Nat → α) (i : Nat) (x : α) : Nat → α := fun k => if k = i then x else f k
def si (s : ST) (c k j : Nat) (x : Int32) : ST := (up3 s.1 c k j x, s.2)
def sl (s : ST) (c k j : Nat) (x : Int64) : ST := (s.1, up3 s.2.1 c k j x, s.2.2)
def sz (s : ST) (c k j : Nat) (x : Bool) : ST := (s.1, s.2.1, up3 s.2.2.1 c k j x, s.2.2.2)
def sr (s : ST) (c k j : Nat) (x : Nat) : ST := (s.1, s.2.1, s.2.2.1, up3 s.2.2.2.1 c k j x, s.2.2.2.2)
def sa (s : ST) (c j : Nat) (g : Nat → Int32) : ST := (s.1, s.2.1, s.2.2.1, s.2.2.2.1, up2 s.2.2.2.2.1 c j g, s.2.2.2.2.2)
def sb (s : ST) (c j : Nat) (g : Nat → Int64) : ST := (s.1, s.2.1, s.2.2.1, s.2.2.2.1, s.2.2.2.2.1, up2 s.2.2.2.2.2.1 c j g, s.2.2.2.2.2.2)
def sy (s : ST) (c j : Nat) (g : Nat → Bool) : ST := (s.1, s.2.1, s.2.2.1, s.2.2.2.1, s.2.2.2.2.1, s.2.2.2.2.2.1, up2 s.2.2.2.2.2.2 c j g)
theorem gi_si (s : ST) (c k j c' k' j' : Nat) (x : Int32) : gi (si s c k j x) c' k' j' = if c' = c ∧ k' = k ∧ j' = j then x else gi s c' k' j' := rfl
theorem gi_sl (s : ST) (c k j c' k' j' : Nat) (x : Int64) : gi (sl s c k j x) c' k' j' = gi s c' k' j' := rfl
theorem gi_sz (s : ST) (c k j c' k' j' : Nat) (x : Bool) : gi (sz s c k j x) c' k' j' = gi s c' k' j' := rfl
theorem gi_sr (s : ST) (c k j c' k' j' : Nat) (x : Nat) : gi (sr s c k j x) c' k' j' = gi s c' k' j' := rfl
theorem gi_sa (s : ST) (c j c' k' j' : Nat) (x : Nat → Int32) : gi (sa s c j x) c' k' j' = gi s c' k' j' := rfl
theorem gi_sb (s : ST) (c j c' k' j' : Nat) (x : Nat → Int64) : gi (sb s c j x) c' k' j' = gi s c' k' j' := rfl
theorem gi_sy (s : ST) (c j c' k' j' : Nat) (x : Nat → Bool) : gi (sy s c j x) c' k' j' = gi s c' k' j' := rfl
theorem gl_si (s : ST) (c k j c' k' j' : Nat) (x : Int32) : gl (si s c k j x) c' k' j' = gl s c' k' j' := rfl
theorem gl_sl (s : ST) (c k j c' k' j' : Nat) (x : Int64) : gl (sl s c k j x) c' k' j' = if c' = c ∧ k' = k ∧ j' = j then x else gl s c' k' j' := rfl
theorem gl_sz (s : ST) (c k j c' k' j' : Nat) (x : Bool) : gl (sz s c k j x) c' k' j' = gl s c' k' j' := rfl
theorem gl_sr (s : ST) (c k j c' k' j' : Nat) (x : Nat) : gl (sr s c k j x) c' k' j' = gl s c' k' j' := rfl
theorem gl_sa (s : ST) (c j c' k' j' : Nat) (x : Nat → Int32) : gl (sa s c j x) c' k' j' = gl s c' k' j' := rfl
theorem gl_sb (s : ST) (c j c' k' j' : Nat) (x : Nat → Int64) : gl (sb s c j x) c' k' j' = gl s c' k' j' := rfl
theorem gl_sy (s : ST) (c j c' k' j' : Nat) (x : Nat → Bool) : gl (sy s c j x) c' k' j' = gl s c' k' j' := rfl
theorem gz_si (s : ST) (c k j c' k' j' : Nat) (x : Int32) : gz (si s c k j x) c' k' j' = gz s c' k' j' := rfl
theorem gz_sl (s : ST) (c k j c' k' j' : Nat) (x : Int64) : gz (sl s c k j x) c' k' j' = gz s c' k' j' := rfl
theorem gz_sz (s : ST) (c k j c' k' j' : Nat) (x : Bool) : gz (sz s c k j x) c' k' j' = if c' = c ∧ k' = k ∧ j' = j then x else gz s c' k' j' := rfl
theorem gz_sr (s : ST) (c k j c' k' j' : Nat) (x : Nat) : gz (sr s c k j x) c' k' j' = gz s c' k' j' := rfl
theorem gz_sa (s : ST) (c j c' k' j' : Nat) (x : Nat → Int32) : gz (sa s c j x) c' k' j' = gz s c' k' j' := rfl
theorem gz_sb (s : ST) (c j c' k' j' : Nat) (x : Nat → Int64) : gz (sb s c j x) c' k' j' = gz s c' k' j' := rfl
theorem gz_sy (s : ST) (c j c' k' j' : Nat) (x : Nat → Bool) : gz (sy s c j x) c' k' j' = gz s c' k' j' := rfl
theorem gr_si (s : ST) (c k j c' k' j' : Nat) (x : Int32) : gr (si s c k j x) c' k' j' = gr s c' k' j' := rfl
theorem gr_sl (s : ST) (c k j c' k' j' : Nat) (x : Int64) : gr (sl s c k j x) c' k' j' = gr s c' k' j' := rfl
theorem gr_sz (s : ST) (c k j c' k' j' : Nat) (x : Bool) : gr (sz s c k j x) c' k' j' = gr s c' k' j' := rfl
theorem gr_sr (s : ST) (c k j c' k' j' : Nat) (x : Nat) : gr (sr s c k j x) c' k' j' = if c' = c ∧ k' = k ∧ j' = j then x else gr s c' k' j' := rfl
theorem gr_sa (s : ST) (c j c' k' j' : Nat) (x : Nat → Int32) : gr (sa s c j x) c' k' j' = gr s c' k' j' := rfl
theorem gr_sb (s : ST) (c j c' k' j' : Nat) (x : Nat → Int64) : gr (sb s c j x) c' k' j' = gr s c' k' j' := rfl
theorem gr_sy (s : ST) (c j c' k' j' : Nat) (x : Nat → Bool) : gr (sy s c j x) c' k' j' = gr s c' k' j' := rfl
theorem ga_si (s : ST) (c k j c' j' : Nat) (x : Int32) : ga (si s c k j x) c' j' = ga s c' j' := rfl
theorem ga_sl (s : ST) (c k j c' j' : Nat) (x : Int64) : ga (sl s c k j x) c' j' = ga s c' j' := rfl
theorem ga_sz (s : ST) (c k j c' j' : Nat) (x : Bool) : ga (sz s c k j x) c' j' = ga s c' j' := rfl
theorem ga_sr (s : ST) (c k j c' j' : Nat) (x : Nat) : ga (sr s c k j x) c' j' = ga s c' j' := rfl
theorem ga_sa (s : ST) (c j c' j' : Nat) (x : Nat → Int32) : ga (sa s c j x) c' j' = if c' = c ∧ j' = j then x else ga s c' j' := rfl
theorem ga_sb (s : ST) (c j c' j' : Nat) (x : Nat → Int64) : ga (sb s c j x) c' j' = ga s c' j' := rfl
theorem ga_sy (s : ST) (c j c' j' : Nat) (x : Nat → Bool) : ga (sy s c j x) c' j' = ga s c' j' := rfl
theorem gb_si (s : ST) (c k j c' j' : Nat) (x : Int32) : gb (si s c k j x) c' j' = gb s c' j' := rfl
theorem gb_sl (s : ST) (c k j c' j' : Nat) (x : Int64) : gb (sl s c k j x) c' j' = gb s c' j' := rfl
theorem gb_sz (s : ST) (c k j c' j' : Nat) (x : Bool) : gb (sz s c k j x) c' j' = gb s c' j' := rfl
theorem gb_sr (s : ST) (c k j c' j' : Nat) (x : Nat) : gb (sr s c k j x) c' j' = gb s c' j' := rfl
theorem gb_sa (s : ST) (c j c' j' : Nat) (x : Nat → Int32) : gb (sa s c j x) c' j' = gb s c' j' := rfl
theorem gb_sb (s : ST) (c j c' j' : Nat) (x : Nat → Int64) : gb (sb s c j x) c' j' = if c' = c ∧ j' = j then x else gb s c' j' := rfl
theorem gb_sy (s : ST) (c j c' j' : Nat) (x : Nat → Bool) : gb (sy s c j x) c' j' = gb s c' j' := rfl
theorem gy_si (s : ST) (c k j c' j' : Nat) (x : Int32) : gy (si s c k j x) c' j' = gy s c' j' := rfl
theorem gy_sl (s : ST) (c k j c' j' : Nat) (x : Int64) : gy (sl s c k j x) c' j' = gy s c' j' := rfl
theorem gy_sz (s : ST) (c k j c' j' : Nat) (x : Bool) : gy (sz s c k j x) c' j' = gy s c' j' := rfl
theorem gy_sr (s : ST) (c k j c' j' : Nat) (x : Nat) : gy (sr s c k j x) c' j' = gy s c' j' := rfl
theorem gy_sa (s : ST) (c j c' j' : Nat) (x : Nat → Int32) : gy (sa s c j x) c' j' = gy s c' j' := rfl
theorem gy_sb (s : ST) (c j c' j' : Nat) (x : Nat → Int64) : gy (sb s c j x) c' j' = gy s c' j' := rfl
theorem gy_sy (s : ST) (c j c' j' : Nat) (x : Nat → Bool) : gy (sy s c j x) c' j' = if c' = c ∧ j' = j then x else gy s c' j' := rfl
theorem up1_s {α : Type} (f : Nat → α) (i : Nat) (x : α) : up1 f i x i = x := by simp [up1]
theorem up1_n {α : Type} {f : Nat → α} {i k : Nat} {x : α} (h : k ≠ i) : up1 f i x k = f k := by simp [up1, h]
/-- a field's value by what it is: 0 an int, 1 a long, 2 a boolean, 3 the cell (x, same instance), 4 the cell (x, y), else a cell of kind x that may change -/
def fv (s : ST) (c j k : Nat) (q : Nat × Nat × Nat) : AV := match q with
  | (0, _, _) => vI (gi s c k j)
  | (1, _, _) => vL (gl s c k j)
  | (2, _, _) => vI (b2i (gz s c k j))
  | (3, x, _) => vR x j
  | (4, x, y) => vR x y
  | (_, x, _) => vR x (gr s c k j)
def en (ad : Nat → Nat → Nat) (cA : Nat → ClassId) (S : ST) (c j : Nat) (kd : KD) : va_E := match kd with
  | .inl (ci, n) => .inr (ci, (List.range n).map (fun k => tv ad (fv S c j k (FT c k))))
  | .inr (1, n, _) => .inl (cA 1, n, .inl (fun i => b2i (gy S c j i)))
  | .inr (3, n, _) => .inl (cA 3, n, .inr (.inl (gb S c j)))
  | .inr (4, n, y) => .inl (cA 4, n, .inr (.inr (.inr (.inr (fun i => some (ad y i))))))
  | .inr (t, n, _) => .inl (cA t, n, .inl (ga S c j))
def vld (c j : Nat) : Prop := (∃ kd : KD, LY c = some kd) ∧ j < NI c
def Rep (D : va_G) (ad : Nat → Nat → Nat) (cA : Nat → ClassId) (S : ST) (H : Heap) : Prop := ∀ (c j : Nat) (kd : KD), LY c = some kd → j < NI c → va_at D vwCl (ad c j, en ad cA S c j kd) H
def fr (ad : Nat → Nat → Nat) : Nat → Prop := fun q => ∃ c j : Nat, vld c j ∧ ad c j = q
-- the texts of the class and of the reference: 0 the class's reserved words, 1 the signs (one text for both), 2 the reference's reserved words
def lenL : List Nat := [154, 13, 114]
def bytL : List (List Int32) := [[99, 114, 101, 97, 116, 101, 32, 105, 110, 115, 101, 114, 116, 32, 100, 101, 108, 101, 116, 101, 32, 117, 112, 100, 97, 116, 101, 32, 115, 101, 116, 32, 32, 32, 32, 115, 101, 108, 101, 99, 116, 32, 102, 114, 111, 109, 32, 32, 32, 119, 104, 101, 114, 101, 32, 32, 103, 114, 111, 117, 112, 32, 32, 111, 114, 100, 101, 114, 32, 32, 100, 101, 115, 99, 32, 32, 32, 105, 110, 116, 32, 32, 32, 32, 116, 101, 120, 116, 32, 32, 32, 110, 117, 108, 108, 32, 32, 32, 105, 115, 32, 32, 32, 32, 32, 97, 110, 100, 32, 32, 32, 32, 111, 114, 32, 32, 32, 32, 32, 110, 111, 116, 32, 32, 32, 32, 115, 117, 109, 32, 32, 32, 32, 99, 111, 117, 110, 116, 32, 32, 109, 105, 110, 32, 32, 32, 32, 109, 97, 120, 32, 32, 32, 32], [40, 41, 91, 93, 44, 46, 43, 45, 42, 47, 61, 60, 62], [32, 99, 114, 101, 97, 116, 101, 32, 105, 110, 115, 101, 114, 116, 32, 100, 101, 108, 101, 116, 101, 32, 117, 112, 100, 97, 116, 101, 32, 115, 101, 116, 32, 115, 101, 108, 101, 99, 116, 32, 102, 114, 111, 109, 32, 119, 104, 101, 114, 101, 32, 103, 114, 111, 117, 112, 32, 111, 114, 100, 101, 114, 32, 100, 101, 115, 99, 32, 105, 110, 116, 32, 116, 101, 120, 116, 32, 110, 117, 108, 108, 32, 105, 115, 32, 97, 110, 100, 32, 111, 114, 32, 110, 111, 116, 32, 115, 117, 109, 32, 99, 111, 117, 110, 116, 32, 109, 105, 110, 32, 109, 97, 120, 32]]
/-- what was there before: texts (the cells (1000, i), their bytes (1001, i)) and statics of the JDK -/
def KS (ad : Nat → Nat → Nat) (U : State) : Prop := vk_S 3 lenL bytL (ad 1000) (ad 1001) (fr ad) U U.heap ∧ (vk_R "QueryForge$Words" 72 "create insert delete update set    select from   where  group  order  desc   int    text   null   is     and    or     not    sum    count  min    max    " (ad 1000 0) U ∧ vk_R "QueryForge$Words" 60 "()[],.+-*/=<>" (ad 1000 1) U ∧ vk_R "QueryForgeModel" 109 " create insert delete update set select from where group order desc int text null is and or not sum count min max " (ad 1000 2) U ∧ vk_R "QueryForgeModel" 152 "()[],.+-*/=<>" (ad 1000 1) U) ∧ va_Z "java/lang/String" "COMPACT_STRINGS" "Z" (.int 1) (fr ad) U U.heap ∧ va_Zq "jdk/internal/util/Preconditions" "SIOOBE_FORMATTER" "Ljava/util/function/BiFunction;" (fr ad) U U.heap
theorem KS_same {ad : Nat → Nat → Nat} {u U : State} (hv : U.vm = u.vm) (hh : U.heap = u.heap) (h : KS ad u) : KS ad U := by
  obtain ⟨h1, ⟨r1, r2, r3, r4⟩, h2, h3⟩ := h
  have ha : u.vm.Alike U.vm := by rw [hv]; exact Vm.Alike.refl u.vm
  refine ⟨?_, ⟨vk_R.same hv r1, vk_R.same hv r2, vk_R.same hv r3, vk_R.same hv r4⟩, ?_, ?_⟩
  · rw [hh]; exact h1.moved ha
  · rw [hh]; exact h2.moved ha
  · rw [hh]; exact h3.moved ha
theorem KS_at {ad : Nat → Nat → Nat} {s U : State} {H : Heap} {locs : List Loc} (h : KS ad s) (hW : s.WarmedH U.vm) (hU : U.heap = H) (hS : va_S (fr ad) s.heap H locs) : KS ad U := by
  obtain ⟨h1, ⟨r1, r2, r3, r4⟩, h2, h3⟩ := h
  have ha : s.vm.Alike U.vm := hW.alike
  have hk : ∀ a : Nat, a < s.heap.size → ¬ fr ad a → U.heap[a]? = s.heap[a]? := fun a h1 h2 => by rw [hU]; exact hS.2.1 a h1 h2
  exact ⟨(h1.moved ha).kept hk, ⟨vk_R.warm hW r1, vk_R.warm hW r2, vk_R.warm hW r3, vk_R.warm hW r4⟩, (h2.moved ha).kept hk, (h3.moved ha).kept hk⟩
def Inj (ad : Nat → Nat → Nat) : Prop := ∀ c j c' j' : Nat, vld c j → vld c' j' → ad c j = ad c' j' → c = c' ∧ j = j'
def tyl (cA : Nat → ClassId) : List (ClassId × FieldType) := [(cA 0, .int), (cA 1, .boolean), (cA 2, .char), (cA 3, .long), (cA 4, .object "QueryForge$Table")]
theorem rep_upd {D : va_G} {ad : Nat → Nat → Nat} {cA : Nat → ClassId} {S S' : ST} {H H' : Heap} (hR : Rep D ad cA S H) (hi : Inj ad) {c j : Nat} {kd : KD} (hc : LY c = some kd) (hj : j < NI c)
    (hn : va_at D vwCl (ad c j, en ad cA S' c j kd) H') (ho : ∀ q : Nat, q ≠ ad c j → H'[q]? = H[q]?) (hs : ∀ (c' j' : Nat) (kd' : KD), (c' ≠ c ∨ j' ≠ j) → en ad cA S' c' j' kd' = en ad cA S c' j' kd') : Rep D ad cA S' H' := by
  intro c' j' kd' hc' hj'
  by_cases h : c' = c ∧ j' = j
  · obtain ⟨rfl, rfl⟩ := h
    cases hc.symm.trans hc'
    exact hn
  · have h2 : c' ≠ c ∨ j' ≠ j := by
      by_cases hq : c' = c
      · exact Or.inr (fun z => h ⟨hq, z⟩)
      · exact Or.inl hq
    rw [hs c' j' kd' h2]
    refine (hR c' j' kd' hc' hj').kept (ho _ (fun e => ?_))
    exact h (hi c' j' c j ⟨⟨_, hc'⟩, hj'⟩ ⟨⟨_, hc⟩, hj⟩ e)
theorem en_same {ad : Nat → Nat → Nat} {cA : Nat → ClassId} {S S' : ST} {c j : Nat} (kd : KD) (hf : ∀ (k : Nat) (q : Nat × Nat × Nat), fv S' c j k q = fv S c j k q) (h1 : ga S' c j = ga S c j) (h2 : gb S' c j = gb S c j) (h3 : gy S' c j = gy S c j) : en ad cA S' c j kd = en ad cA S c j kd := by
  unfold en
  split <;> simp only [hf, h1, h2, h3]
theorem fv_si {S : ST} {c k j c' j' k' : Nat} {x : Int32} {q : Nat × Nat × Nat} (h : c' ≠ c ∨ j' ≠ j ∨ k' ≠ k) : fv (si S c k j x) c' j' k' q = fv S c' j' k' q := by
  have e : ¬ (c' = c ∧ k' = k ∧ j' = j) := fun z => h.elim (fun n => n z.1) (fun n => n.elim (fun n => n z.2.2) (fun n => n z.2.1))
  unfold fv
  split <;> simp [gi_si, gl_si, gz_si, gr_si, e]
theorem fv_sl {S : ST} {c k j c' j' k' : Nat} {x : Int64} {q : Nat × Nat × Nat} (h : c' ≠ c ∨ j' ≠ j ∨ k' ≠ k) : fv (sl S c k j x) c' j' k' q = fv S c' j' k' q := by
  have e : ¬ (c' = c ∧ k' = k ∧ j' = j) := fun z => h.elim (fun n => n z.1) (fun n => n.elim (fun n => n z.2.2) (fun n => n z.2.1))
  unfold fv
  split <;> simp [gi_sl, gl_sl, gz_sl, gr_sl, e]
theorem fv_sz {S : ST} {c k j c' j' k' : Nat} {x : Bool} {q : Nat × Nat × Nat} (h : c' ≠ c ∨ j' ≠ j ∨ k' ≠ k) : fv (sz S c k j x) c' j' k' q = fv S c' j' k' q := by
  have e : ¬ (c' = c ∧ k' = k ∧ j' = j) := fun z => h.elim (fun n => n z.1) (fun n => n.elim (fun n => n z.2.2) (fun n => n z.2.1))
  unfold fv
  split <;> simp [gi_sz, gl_sz, gz_sz, gr_sz, e]
theorem fv_sr {S : ST} {c k j c' j' k' : Nat} {x : Nat} {q : Nat × Nat × Nat} (h : c' ≠ c ∨ j' ≠ j ∨ k' ≠ k) : fv (sr S c k j x) c' j' k' q = fv S c' j' k' q := by
  have e : ¬ (c' = c ∧ k' = k ∧ j' = j) := fun z => h.elim (fun n => n z.1) (fun n => n.elim (fun n => n z.2.2) (fun n => n z.2.1))
  unfold fv
  split <;> simp [gi_sr, gl_sr, gz_sr, gr_sr, e]
theorem fv_sa {S : ST} {c j c' j' k' : Nat} {g : Nat → Int32} {q : Nat × Nat × Nat} : fv (sa S c j g) c' j' k' q = fv S c' j' k' q := by
  unfold fv
  split <;> simp [gi_sa, gl_sa, gz_sa, gr_sa]
theorem fv_sb {S : ST} {c j c' j' k' : Nat} {g : Nat → Int64} {q : Nat × Nat × Nat} : fv (sb S c j g) c' j' k' q = fv S c' j' k' q := by
  unfold fv
  split <;> simp [gi_sb, gl_sb, gz_sb, gr_sb]
theorem fv_sy {S : ST} {c j c' j' k' : Nat} {g : Nat → Bool} {q : Nat × Nat × Nat} : fv (sy S c j g) c' j' k' q = fv S c' j' k' q := by
  unfold fv
  split <;> simp [gi_sy, gl_sy, gz_sy, gr_sy]
-- locals, methods, rooms
abbrev LVs : Type := List (Option AV)
def LH (ad : Nat → Nat → Nat) (ls : Array Slot) (n : Nat) (L : LVs) : Prop := ls.size = n ∧ lv_wf ls ∧ ∀ (i : Nat) (v : AV), L[i]? = some (some v) → ls[i]? = some (.val (tv ad v))
def rmH (h : Nat) : Jvm.Room := { frames := h, cells := 0, slots := 0, locals := 64 * h }
def wsM (M : MD) : List Cond := Cond.code M.1 M.2.1 M.2.2.1 M.2.2.2 :: wT
def Gd (M : MD) (h : Nat) (p : Program) (R : Jvm.Room) (s : State) (m : MethodId) (args : Array Value) (meth : Method) (c : Code) (D : va_G) (ad : Nat → Nat → Nat) (cA : Nat → ClassId) : Prop :=
  p.tables.exec = Jvm.exec ∧ c.code = M.2.1 ∧ meth.sig.returnType = M.2.2.2 ∧ c.maxLocals = M.2.2.1 ∧ s.vm.findClass M.1.cls = some m.cls ∧ (∀ w ∈ wT, w.before args s = true) ∧ va_K D vwCl (tyl cA) s ∧ meth.locks = false ∧ R = rmH h ∧ Inj ad ∧ KS ad s
def Qp (D : va_G) (ad : Nat → Nat → Nat) (cA : Nat → ClassId) (Q : Option AV → ST → Prop) : Array Value → State → Outcome → State → Prop := fun _ st o t => ∃ (r : Option AV) (S' : ST), o = .returned (r.map (tv ad)) ∧ Q r S' ∧ Rep D ad cA S' t.heap ∧ va_F (fr ad) st t
/-- the machine, in method M with h frames to go, at pc, with locals L, stack st and state S, comes to a return with Q -/
def V (M : MD) (h pc : Nat) (L : LVs) (st : List AV) (S : ST) (Q : Option AV → ST → Prop) : Prop :=
  ∀ (p : Program) (l : Launch) (e : Env) (R : Jvm.Room) (s : State) (m : MethodId) (args : Array Value) (below : List Frame) (meth : Method) (c : Code) (D : va_G) (ad : Nat → Nat → Nat) (cA : Nat → ClassId), Gd M h p R s m args meth c D ad cA →
  ∀ (H : Heap) (locs : List Loc) (ls : Array Slot), Rep D ad cA S H → va_S (fr ad) s.heap H locs → LH ad ls M.2.2.1 L → W p l e R s m args below meth c H locs 0 0 (MQ below (Qp D ad cA Q) args s 0 0 (fr ad)) (F0 m pc ls (st.map (tv ad)))
/-- a contract: from state S, with arguments As, and h frames -/
def Ct (M : MD) (h : Nat) (As : List AV) (S : ST) (Q : Option AV → ST → Prop) : Prop :=
  ∀ (l : Launch) (D : va_G) (ad : Nat → Nat → Nat) (cA : Nat → ClassId), Inj ad → Met l M.1 (wsM M) (rmH h) (va_Pc (As.map (tv ad)) (fun U => va_K D vwCl (tyl cA) U ∧ Rep D ad cA S U.heap ∧ KS ad U)) (Qp D ad cA Q) 0 0 (fr ad)
-- what an instruction does: locals, stack, state, and what comes behind it
abbrev KK : Type := LVs → List AV → ST → Prop
section
variable (L : LVs) (st : List AV) (S : ST) (N : KK)
def o_c (x : Int32) : Prop := N L (vI x :: st) S
def o_lc (x : Int64) : Prop := N L (vL x :: st) S
def o_il (i : Nat) : Prop := match L[i]? with
  | some (some (.inl x)) => N L (vI x :: st) S
  | _ => False
def o_ll (i : Nat) : Prop := match L[i]? with
  | some (some (.inr (.inl x))) => N L (vL x :: st) S
  | _ => False
def o_al (i : Nat) : Prop := match L[i]? with
  | some (some (.inr (.inr (c, j)))) => N L (vR c j :: st) S
  | _ => False
/-- the locals behind a store: a long's second place is empty; a long that loses its second place is gone -/
def kl (L : LVs) (i : Nat) : LVs := match i with
  | 0 => L
  | k + 1 => match L[k]? with
    | some (some (.inr (.inl _))) => L.set k none
    | _ => L
def st1 (L : LVs) (i : Nat) (v : AV) : LVs := (kl L i).set i (some v)
def st2 (L : LVs) (i : Nat) (v : AV) : LVs := ((kl L i).set i (some v)).set (i + 1) none
def o_is (i : Nat) : Prop := match st with
  | .inl x :: st => i < L.length ∧ N (st1 L i (vI x)) st S
  | _ => False
def o_as (i : Nat) : Prop := match st with
  | .inr (.inr (c, j)) :: st => i < L.length ∧ N (st1 L i (vR c j)) st S
  | _ => False
def o_ls (i : Nat) : Prop := match st with
  | .inr (.inl x) :: st => i + 1 < L.length ∧ N (st2 L i (vL x)) st S
  | _ => False
def o_inc (i : Nat) (n : Int32) : Prop := match L[i]? with
  | some (some (.inl x)) => N (st1 L i (vI (x + n))) st S
  | _ => False
def o_iadd : Prop := match st with
  | .inl y :: .inl x :: st => N L (vI (x + y) :: st) S
  | _ => False
def o_isub : Prop := match st with
  | .inl y :: .inl x :: st => N L (vI (x - y) :: st) S
  | _ => False
def o_imul : Prop := match st with
  | .inl y :: .inl x :: st => N L (vI (x * y) :: st) S
  | _ => False
def o_iand : Prop := match st with
  | .inl y :: .inl x :: st => N L (vI (x &&& y) :: st) S
  | _ => False
def o_idiv : Prop := match st with
  | .inl y :: .inl x :: st => ¬ y = 0 ∧ N L (vI (x / y) :: st) S
  | _ => False
def o_irem : Prop := match st with
  | .inl y :: .inl x :: st => ¬ y = 0 ∧ N L (vI (x - x / y * y) :: st) S
  | _ => False
def o_ineg : Prop := match st with
  | .inl x :: st => N L (vI (-x) :: st) S
  | _ => False
def o_ladd : Prop := match st with
  | .inr (.inl y) :: .inr (.inl x) :: st => N L (vL (x + y) :: st) S
  | _ => False
def o_lsub : Prop := match st with
  | .inr (.inl y) :: .inr (.inl x) :: st => N L (vL (x - y) :: st) S
  | _ => False
def o_lmul : Prop := match st with
  | .inr (.inl y) :: .inr (.inl x) :: st => N L (vL (x * y) :: st) S
  | _ => False
def o_lor : Prop := match st with
  | .inr (.inl y) :: .inr (.inl x) :: st => N L (vL (x ||| y) :: st) S
  | _ => False
def o_ldiv : Prop := match st with
  | .inr (.inl y) :: .inr (.inl x) :: st => ¬ y = 0 ∧ N L (vL (x / y) :: st) S
  | _ => False
def o_lneg : Prop := match st with
  | .inr (.inl x) :: st => N L (vL (-x) :: st) S
  | _ => False
def o_lshl : Prop := match st with
  | .inl y :: .inr (.inl x) :: st => N L (vL (x <<< (y.toInt64 &&& 63)) :: st) S
  | _ => False
def o_lcmp : Prop := match st with
  | .inr (.inl y) :: .inr (.inl x) :: st => N L (vI (lg_cmp x y) :: st) S
  | _ => False
def o_i2l : Prop := match st with
  | .inl x :: st => N L (vL x.toInt64 :: st) S
  | _ => False
def o_l2i : Prop := match st with
  | .inr (.inl x) :: st => N L (vI x.toInt32 :: st) S
  | _ => False
def o_i2c : Prop := match st with
  | .inl x :: st => N L (vI (x.toUInt32 % 65536).toInt32 :: st) S
  | _ => False
def cat1 (v : AV) : Bool := match v with
  | .inr (.inl _) => false
  | _ => true
def o_dup : Prop := match st with
  | v :: st => cat1 v = true ∧ N L (v :: v :: st) S
  | _ => False
def o_pop : Prop := match st with
  | v :: st => cat1 v = true ∧ N L st S
  | _ => False
def o_dup2 : Prop := match st with
  | v :: w :: st => cat1 v = true ∧ cat1 w = true ∧ N L (v :: w :: v :: w :: st) S
  | _ => False
def o_get (c k : Nat) (q : Nat × Nat × Nat) : Prop := match st with
  | .inr (.inr (c', j)) :: st => c' = c ∧ j < NI c ∧ N L (fv S c j k q :: st) S
  | _ => False
def o_puti (c k : Nat) : Prop := match st with
  | .inl x :: .inr (.inr (c', j)) :: st => c' = c ∧ j < NI c ∧ N L st (si S c k j x)
  | _ => False
def o_putl (c k : Nat) : Prop := match st with
  | .inr (.inl x) :: .inr (.inr (c', j)) :: st => c' = c ∧ j < NI c ∧ N L st (sl S c k j x)
  | _ => False
def o_putz (c k : Nat) : Prop := match st with
  | .inl x :: .inr (.inr (c', j)) :: st => c' = c ∧ j < NI c ∧ (x = nI 0 ∨ x = nI 1) ∧ N L st (sz S c k j (decide (x = nI 1)))
  | _ => False
def o_putr (c k x : Nat) : Prop := match st with
  | .inr (.inr (y, i)) :: .inr (.inr (c', j)) :: st => c' = c ∧ y = x ∧ j < NI c ∧ N L st (sr S c k j i)
  | _ => False
def o_iald : Prop := match st with
  | .inl i :: .inr (.inr (c, j)) :: st => match LY c with
    | some (.inr (0, n, _)) => j < NI c ∧ vp_in i n ∧ N L (vI (ga S c j i.toNatClampNeg) :: st) S
    | _ => False
  | _ => False
def o_cald : Prop := match st with
  | .inl i :: .inr (.inr (c, j)) :: st => match LY c with
    | some (.inr (2, n, _)) => j < NI c ∧ vp_in i n ∧ N L (vI (ga S c j i.toNatClampNeg) :: st) S
    | _ => False
  | _ => False
def o_zald : Prop := match st with
  | .inl i :: .inr (.inr (c, j)) :: st => match LY c with
    | some (.inr (1, n, _)) => j < NI c ∧ vp_in i n ∧ N L (vI (b2i (gy S c j i.toNatClampNeg)) :: st) S
    | _ => False
  | _ => False
def o_lald : Prop := match st with
  | .inl i :: .inr (.inr (c, j)) :: st => match LY c with
    | some (.inr (3, n, _)) => j < NI c ∧ vp_in i n ∧ N L (vL (gb S c j i.toNatClampNeg) :: st) S
    | _ => False
  | _ => False
def o_aald : Prop := match st with
  | .inl i :: .inr (.inr (c, j)) :: st => match LY c with
    | some (.inr (4, n, y)) => j < NI c ∧ vp_in i n ∧ N L (vR y i.toNatClampNeg :: st) S
    | _ => False
  | _ => False
def o_iast : Prop := match st with
  | .inl x :: .inl i :: .inr (.inr (c, j)) :: st => match LY c with
    | some (.inr (0, n, _)) => j < NI c ∧ vp_in i n ∧ N L st (sa S c j (up1 (ga S c j) i.toNatClampNeg x))
    | _ => False
  | _ => False
def o_cast : Prop := match st with
  | .inl x :: .inl i :: .inr (.inr (c, j)) :: st => match LY c with
    | some (.inr (2, n, _)) => j < NI c ∧ vp_in i n ∧ vp_nar .char x = x ∧ N L st (sa S c j (up1 (ga S c j) i.toNatClampNeg x))
    | _ => False
  | _ => False
def o_zast : Prop := match st with
  | .inl x :: .inl i :: .inr (.inr (c, j)) :: st => match LY c with
    | some (.inr (1, n, _)) => j < NI c ∧ vp_in i n ∧ (x = nI 0 ∨ x = nI 1) ∧ N L st (sy S c j (up1 (gy S c j) i.toNatClampNeg (decide (x = nI 1))))
    | _ => False
  | _ => False
def o_last : Prop := match st with
  | .inr (.inl x) :: .inl i :: .inr (.inr (c, j)) :: st => match LY c with
    | some (.inr (3, n, _)) => j < NI c ∧ vp_in i n ∧ N L st (sb S c j (up1 (gb S c j) i.toNatClampNeg x))
    | _ => False
  | _ => False
end
