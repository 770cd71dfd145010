-- how a stretch ends: branches, switches, returns
def t_1 (L : LVs) (st : List AV) (S : ST) (c : Int32 → Prop) (A B : KK) : Prop := match st with
  | .inl x :: st => (c x → A L st S) ∧ (¬ c x → B L st S)
  | _ => False
def t_2 (L : LVs) (st : List AV) (S : ST) (c : Int32 → Int32 → Prop) (A B : KK) : Prop := match st with
  | .inl y :: .inl x :: st => (c x y → A L st S) ∧ (¬ c x y → B L st S)
  | _ => False
def t_sw (L : LVs) (st : List AV) (S : ST) (cs : List (Int32 × KK)) (B : KK) : Prop := match st with
  | .inl x :: st => (∀ q ∈ cs, x = q.1 → q.2 L st S) ∧ ((∀ q ∈ cs, ¬ x = q.1) → B L st S)
  | _ => False
def t_ir (st : List AV) (S : ST) (Q : Option AV → ST → Prop) : Prop := match st with
  | [.inl x] => Q (some (vI x)) S
  | _ => False
def t_zr (st : List AV) (S : ST) (Q : Option AV → ST → Prop) : Prop := match st with
  | [.inl x] => (x = nI 0 ∨ x = nI 1) ∧ Q (some (vI x)) S
  | _ => False
def t_lr (st : List AV) (S : ST) (Q : Option AV → ST → Prop) : Prop := match st with
  | [.inr (.inl x)] => Q (some (vL x)) S
  | _ => False
def t_ar (st : List AV) (S : ST) (Q : Option AV → ST → Prop) : Prop := match st with
  | [.inr (.inr (c, j))] => Q (some (vR c j)) S
  | _ => False
def t_vr (st : List AV) (S : ST) (Q : Option AV → ST → Prop) : Prop := match st with
  | [] => Q none S
  | _ => False
section
variable {M : MD} {h pc : Nat} {L : LVs} {st : List AV} {S : ST} {Q : Option AV → ST → Prop} {off : Int} {tgt nx : Nat}
theorem w_if_eq (d : decode M.2.1 pc = .ok (.ifCond .eq off, 3)) (ht : (pc : Int) + off = (tgt : Int)) (hn : pc + 3 = nx) (k : t_1 L st S (fun x => x = nI 0) (fun L st S => V M h tgt L st S Q) (fun L st S => V M h nx L st S Q)) : V M h pc L st S Q := by
  subst hn
  unfold t_1 at k
  split at k
  · exact v_if_eq d ht (fun z => k.1 z) (fun z => k.2 z)
  · exact k.elim
theorem w_if_ne (d : decode M.2.1 pc = .ok (.ifCond .ne off, 3)) (ht : (pc : Int) + off = (tgt : Int)) (hn : pc + 3 = nx) (k : t_1 L st S (fun x => x = nI 0) (fun L st S => V M h nx L st S Q) (fun L st S => V M h tgt L st S Q)) : V M h pc L st S Q := by
  subst hn
  unfold t_1 at k
  split at k
  · exact v_if_ne d ht (fun z => k.2 z) (fun z => k.1 z)
  · exact k.elim
theorem w_if_lt (d : decode M.2.1 pc = .ok (.ifCond .lt off, 3)) (ht : (pc : Int) + off = (tgt : Int)) (hn : pc + 3 = nx) (k : t_1 L st S (fun x => x < nI 0) (fun L st S => V M h tgt L st S Q) (fun L st S => V M h nx L st S Q)) : V M h pc L st S Q := by
  subst hn
  unfold t_1 at k
  split at k
  · exact v_if_lt d ht (fun z => k.1 z) (fun z => k.2 z)
  · exact k.elim
theorem w_if_ge (d : decode M.2.1 pc = .ok (.ifCond .ge off, 3)) (ht : (pc : Int) + off = (tgt : Int)) (hn : pc + 3 = nx) (k : t_1 L st S (fun x => nI 0 ≤ x) (fun L st S => V M h tgt L st S Q) (fun L st S => V M h nx L st S Q)) : V M h pc L st S Q := by
  subst hn
  unfold t_1 at k
  split at k
  · exact v_if_ge d ht (fun z => k.1 z) (fun z => k.2 z)
  · exact k.elim
theorem w_if_gt (d : decode M.2.1 pc = .ok (.ifCond .gt off, 3)) (ht : (pc : Int) + off = (tgt : Int)) (hn : pc + 3 = nx) (k : t_1 L st S (fun x => nI 0 < x) (fun L st S => V M h tgt L st S Q) (fun L st S => V M h nx L st S Q)) : V M h pc L st S Q := by
  subst hn
  unfold t_1 at k
  split at k
  · exact v_if_gt d ht (fun z => k.1 z) (fun z => k.2 z)
  · exact k.elim
theorem w_if_le (d : decode M.2.1 pc = .ok (.ifCond .le off, 3)) (ht : (pc : Int) + off = (tgt : Int)) (hn : pc + 3 = nx) (k : t_1 L st S (fun x => x ≤ nI 0) (fun L st S => V M h tgt L st S Q) (fun L st S => V M h nx L st S Q)) : V M h pc L st S Q := by
  subst hn
  unfold t_1 at k
  split at k
  · exact v_if_le d ht (fun z => k.1 z) (fun z => k.2 z)
  · exact k.elim
theorem w_icmp_eq (d : decode M.2.1 pc = .ok (.if_icmp .eq off, 3)) (ht : (pc : Int) + off = (tgt : Int)) (hn : pc + 3 = nx) (k : t_2 L st S (fun x y => x = y) (fun L st S => V M h tgt L st S Q) (fun L st S => V M h nx L st S Q)) : V M h pc L st S Q := by
  subst hn
  unfold t_2 at k
  split at k
  · exact v_icmp_eq d ht (fun z => k.1 z) (fun z => k.2 z)
  · exact k.elim
theorem w_icmp_ne (d : decode M.2.1 pc = .ok (.if_icmp .ne off, 3)) (ht : (pc : Int) + off = (tgt : Int)) (hn : pc + 3 = nx) (k : t_2 L st S (fun x y => x = y) (fun L st S => V M h nx L st S Q) (fun L st S => V M h tgt L st S Q)) : V M h pc L st S Q := by
  subst hn
  unfold t_2 at k
  split at k
  · exact v_icmp_ne d ht (fun z => k.2 z) (fun z => k.1 z)
  · exact k.elim
theorem w_icmp_lt (d : decode M.2.1 pc = .ok (.if_icmp .lt off, 3)) (ht : (pc : Int) + off = (tgt : Int)) (hn : pc + 3 = nx) (k : t_2 L st S (fun x y => x < y) (fun L st S => V M h tgt L st S Q) (fun L st S => V M h nx L st S Q)) : V M h pc L st S Q := by
  subst hn
  unfold t_2 at k
  split at k
  · exact v_icmp_lt d ht (fun z => k.1 z) (fun z => k.2 z)
  · exact k.elim
theorem w_icmp_ge (d : decode M.2.1 pc = .ok (.if_icmp .ge off, 3)) (ht : (pc : Int) + off = (tgt : Int)) (hn : pc + 3 = nx) (k : t_2 L st S (fun x y => y ≤ x) (fun L st S => V M h tgt L st S Q) (fun L st S => V M h nx L st S Q)) : V M h pc L st S Q := by
  subst hn
  unfold t_2 at k
  split at k
  · exact v_icmp_ge d ht (fun z => k.1 z) (fun z => k.2 z)
  · exact k.elim
theorem w_icmp_gt (d : decode M.2.1 pc = .ok (.if_icmp .gt off, 3)) (ht : (pc : Int) + off = (tgt : Int)) (hn : pc + 3 = nx) (k : t_2 L st S (fun x y => y < x) (fun L st S => V M h tgt L st S Q) (fun L st S => V M h nx L st S Q)) : V M h pc L st S Q := by
  subst hn
  unfold t_2 at k
  split at k
  · exact v_icmp_gt d ht (fun z => k.1 z) (fun z => k.2 z)
  · exact k.elim
theorem w_icmp_le (d : decode M.2.1 pc = .ok (.if_icmp .le off, 3)) (ht : (pc : Int) + off = (tgt : Int)) (hn : pc + 3 = nx) (k : t_2 L st S (fun x y => x ≤ y) (fun L st S => V M h tgt L st S Q) (fun L st S => V M h nx L st S Q)) : V M h pc L st S Q := by
  subst hn
  unfold t_2 at k
  split at k
  · exact v_icmp_le d ht (fun z => k.1 z) (fun z => k.2 z)
  · exact k.elim
theorem w_ir (d : decode M.2.1 pc = .ok (.ireturn, 1)) (hr : M.2.2.2 = some .int) (k : t_ir st S Q) : V M h pc L st S Q := by
  unfold t_ir at k
  split at k
  · exact v_ireturn d hr k
  · exact k.elim
theorem w_lr (d : decode M.2.1 pc = .ok (.lreturn, 1)) (hr : M.2.2.2 = some .long) (k : t_lr st S Q) : V M h pc L st S Q := by
  unfold t_lr at k
  split at k
  · exact v_lreturn d hr k
  · exact k.elim
theorem w_zr (d : decode M.2.1 pc = .ok (.ireturn, 1)) (hr : M.2.2.2 = some .boolean) (k : t_zr st S Q) : V M h pc L st S Q := by
  unfold t_zr at k
  split at k
  · exact v_zreturn d hr k.1 k.2
  · exact k.elim
theorem w_ar {cn : String} (d : decode M.2.1 pc = .ok (.areturn, 1)) (hr : M.2.2.2 = some (.object cn)) (k : t_ar st S Q) : V M h pc L st S Q := by
  unfold t_ar at k
  split at k
  · exact v_areturn d hr k
  · exact k.elim
theorem w_vr (d : decode M.2.1 pc = .ok (.return_, 1)) (hr : M.2.2.2 = none) (k : t_vr st S Q) : V M h pc L st S Q := by
  unfold t_vr at k
  split at k
  · exact v_return d hr k
  · exact k.elim
theorem w_tsw {dflt lo hi : Int} {offs : Array Int} {len n td : Nat} (tg : List (Int32 × Nat)) (d : decode M.2.1 pc = .ok (.tableswitch dflt lo hi offs, len)) (hd : (pc : Int) + dflt = (td : Int)) (hn : offs.size = n) (hlen : hi - lo < (n : Int)) (htg : tg.map (fun q => (q.1.toInt, (q.2 : Int))) = (List.range n).map (fun (i : Nat) => (lo + (i : Int), (pc : Int) + offs.getD i 0))) (hb : lo + (n : Int) ≤ hi + 1)
    (k : t_sw L st S (tg.map (fun q => (q.1, fun L st S => V M h q.2 L st S Q))) (fun L st S => V M h td L st S Q)) : V M h pc L st S Q := by
  unfold t_sw at k
  split at k
  · rename_i x st
    refine v_tsw d (fun tgt hc => ?_) ⟨td, hd⟩ (fun i hi => ?_)
    · rcases hc with ⟨h1, h2⟩ | ⟨h1, h2, off, h3, h4⟩
      · have : tgt = td := by omega
        subst this
        refine k.2 (fun q hq hx => ?_)
        obtain ⟨p, hp, rfl⟩ := List.mem_map.mp hq
        have hm : (p.1.toInt, (p.2 : Int)) ∈ (List.range n).map (fun (i : Nat) => (lo + (i : Int), (pc : Int) + offs.getD i 0)) := by rw [← htg]; exact List.mem_map.mpr ⟨p, hp, rfl⟩
        obtain ⟨i, hi, he⟩ := List.mem_map.mp hm
        have hi := List.mem_range.mp hi
        simp only [Prod.mk.injEq] at he
        have hx : x = p.1 := hx
        rw [hx] at h1
        omega
      · have hi : (x.toInt - lo).toNat < n := by
          have := (Array.getElem?_eq_some_iff.mp h3).1
          omega
        have hm : (lo + (((x.toInt - lo).toNat : Nat) : Int), (pc : Int) + offs.getD (x.toInt - lo).toNat 0) ∈ tg.map (fun q => (q.1.toInt, (q.2 : Int))) := by
          rw [htg]; exact List.mem_map.mpr ⟨_, List.mem_range.mpr hi, rfl⟩
        obtain ⟨p, hp, he⟩ := List.mem_map.mp hm
        simp only [Prod.mk.injEq] at he
        have e1 : offs.getD (x.toInt - lo).toNat 0 = off := by rw [Array.getD_eq_getD_getElem?, h3]; rfl
        rw [e1] at he
        have e2 : p.2 = tgt := by omega
        have e3 : x = p.1 := Int32.toInt_inj.mp (by omega)
        have := k.1 (p.1, fun L st S => V M h p.2 L st S Q) (List.mem_map.mpr ⟨p, hp, rfl⟩) e3
        rw [e2] at this
        exact this
    · have hi' : i < n := by omega
      have hm : (lo + (i : Int), (pc : Int) + offs.getD i 0) ∈ tg.map (fun q => (q.1.toInt, (q.2 : Int))) := by
        rw [htg]; exact List.mem_map.mpr ⟨_, List.mem_range.mpr hi', rfl⟩
      obtain ⟨p, hp, he⟩ := List.mem_map.mp hm
      simp only [Prod.mk.injEq] at he
      have hsz : i < offs.size := by omega
      refine ⟨offs[i], p.2, Array.getElem?_eq_getElem hsz, ?_⟩
      have e1 : offs.getD i 0 = offs[i] := by simp [Array.getD, hsz]
      rw [e1] at he
      exact he.2.symm
  · exact k.elim
theorem lsw_off : ∀ (ps : List (Int × Int)) (tg : List (Int32 × Nat)) (pc td : Nat) (dflt : Int) (x : Int32), (pc : Int) + dflt = (td : Int) → tg.map (fun q => (q.1.toInt, (q.2 : Int))) = ps.map (fun p => (p.1, (pc : Int) + p.2)) →
    (∃ q ∈ tg, x = q.1 ∧ (pc : Int) + Op.lookupswitch.offset ps dflt x.toInt = (q.2 : Int)) ∨ ((∀ q ∈ tg, ¬ x = q.1) ∧ (pc : Int) + Op.lookupswitch.offset ps dflt x.toInt = (td : Int))
  | [], tg, pc, td, dflt, x, hd, he => by
    have : tg = [] := by cases tg <;> simp_all
    subst this
    exact Or.inr ⟨fun q hq => (by cases hq), hd⟩
  | (a, o) :: ps, tg, pc, td, dflt, x, hd, he => by
    cases tg with
    | nil => simp at he
    | cons q tg =>
      simp only [List.map_cons, List.cons.injEq, Prod.mk.injEq] at he
      obtain ⟨⟨h1, h2⟩, h3⟩ := he
      rw [Op.lookupswitch.offset_cons]
      by_cases hx : x = q.1
      · refine Or.inl ⟨q, List.mem_cons_self, hx, ?_⟩
        rw [if_pos (by rw [hx]; exact h1.symm)]
        exact h2.symm
      · rw [if_neg (fun z => hx (Int32.toInt_inj.mp (z.symm.trans h1.symm)))]
        rcases lsw_off ps tg pc td dflt x hd h3 with ⟨p, hp, e1, e2⟩ | ⟨e1, e2⟩
        · exact Or.inl ⟨p, List.mem_cons_of_mem _ hp, e1, e2⟩
        · refine Or.inr ⟨fun p hp => ?_, e2⟩
          rcases List.mem_cons.mp hp with rfl | hp
          · exact hx
          · exact e1 p hp
theorem w_lsw {dflt : Int} {ps : Array (Int × Int)} {len td : Nat} (tg : List (Int32 × Nat)) (d : decode M.2.1 pc = .ok (.lookupswitch dflt ps, len)) (hp : (ps.toList.zip (ps.toList.drop 1)).all (fun (a, next) => a.1 < next.1) = true) (hd : (pc : Int) + dflt = (td : Int)) (htg : tg.map (fun q => (q.1.toInt, (q.2 : Int))) = ps.toList.map (fun p => (p.1, (pc : Int) + p.2)))
    (k : t_sw L st S (tg.map (fun q => (q.1, fun L st S => V M h q.2 L st S Q))) (fun L st S => V M h td L st S Q)) : V M h pc L st S Q := by
  unfold t_sw at k
  split at k
  · rename_i x st
    rcases lsw_off ps.toList tg pc td dflt x hd htg with ⟨q, hq, e1, e2⟩ | ⟨e1, e2⟩
    · exact v_lsw d hp rfl e2 (k.1 (q.1, fun L st S => V M h q.2 L st S Q) (List.mem_map.mpr ⟨q, hq, rfl⟩) e1)
    · refine v_lsw d hp rfl e2 (k.2 (fun p hp => ?_))
      obtain ⟨p0, hp0, rfl⟩ := List.mem_map.mp hp
      exact e1 p0 hp0
  · exact k.elim
end
-- Math.max, Math.min
def o_max (L : LVs) (st : List AV) (S : ST) (N : KK) : Prop := match st with
  | .inl y :: .inl x :: st => wid st ≤ 8 ∧ N L (vI (if x < y then y else x) :: st) S
  | _ => False
def o_min (L : LVs) (st : List AV) (S : ST) (N : KK) : Prop := match st with
  | .inl y :: .inl x :: st => wid st ≤ 8 ∧ N L (vI (if y < x then y else x) :: st) S
  | _ => False
def o_lmax (L : LVs) (st : List AV) (S : ST) (N : KK) : Prop := match st with
  | .inr (.inl y) :: .inr (.inl x) :: st => wid st ≤ 8 ∧ N L (vL (if y < x then x else y) :: st) S
  | _ => False
def o_lmin (L : LVs) (st : List AV) (S : ST) (N : KK) : Prop := match st with
  | .inr (.inl y) :: .inr (.inl x) :: st => wid st ≤ 8 ∧ N L (vL (if y < x then y else x) :: st) S
  | _ => False
