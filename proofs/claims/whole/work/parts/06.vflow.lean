theorem en_sa {ad : Nat → Nat → Nat} {cA : Nat → ClassId} {S : ST} {c j c' j' : Nat} {g : Nat → Int32} (kd : KD) (h : c' ≠ c ∨ j' ≠ j) : en ad cA (sa S c j g) c' j' kd = en ad cA S c' j' kd := by
  have e : ¬ (c' = c ∧ j' = j) := fun z => h.elim (fun n => n z.1) (fun n => n z.2)
  exact en_same kd (fun k q => fv_sa) (by rw [ga_sa, if_neg e]) rfl rfl
theorem en_sb {ad : Nat → Nat → Nat} {cA : Nat → ClassId} {S : ST} {c j c' j' : Nat} {g : Nat → Int64} (kd : KD) (h : c' ≠ c ∨ j' ≠ j) : en ad cA (sb S c j g) c' j' kd = en ad cA S c' j' kd := by
  have e : ¬ (c' = c ∧ j' = j) := fun z => h.elim (fun n => n z.1) (fun n => n z.2)
  exact en_same kd (fun k q => fv_sb) rfl (by rw [gb_sb, if_neg e]) rfl
theorem en_sy {ad : Nat → Nat → Nat} {cA : Nat → ClassId} {S : ST} {c j c' j' : Nat} {g : Nat → Bool} (kd : KD) (h : c' ≠ c ∨ j' ≠ j) : en ad cA (sy S c j g) c' j' kd = en ad cA S c' j' kd := by
  have e : ¬ (c' = c ∧ j' = j) := fun z => h.elim (fun n => n z.1) (fun n => n z.2)
  exact en_same kd (fun k q => fv_sy) rfl rfl (by rw [gy_sy, if_neg e])
theorem v_iastore {M : MD} {h pc : Nat} {L : LVs} {st : List AV} {S : ST} {Q : Option AV → ST → Prop} {N : KK} (d : decode M.2.1 pc = .ok (.iastore, 1)) (hN : ∀ L st S, N L st S → V M h (pc + 1) L st S Q) (k : o_iast L st S N) : V M h pc L st S Q := by
  unfold o_iast at k
  split at k
  · rename_i x i c j _
    split at k
    · rename_i n y hly
      obtain ⟨hj, hin, k⟩ := k
      intro p l e R s m args below meth cc D ad cA G H locs ls hR hS hL
      refine W.iast G.1 G.2.1 (hR c j _ hly hj) ((G.2.2.2.2.2.2.1.2 0 _ rfl).1 n (fun j => Value.int (ga S _ _ j))) (fun q => by cases q) (by show ¬ (i < 0 ∨ (arrV _ _ _).slots.size ≤ _); rw [arrV_size]; exact hin) rfl rfl d fun H1 e1 z oq => ?_
      refine hN _ _ _ k p l e R s m args below meth cc D ad cA G H1 _ ls (rep_upd hR G.2.2.2.2.2.2.2.2.2.1 hly hj ?_ oq (fun c' j' kd' hd => en_sa kd' hd)) (hS.put z oq ⟨c, j, ⟨⟨_, hly⟩, hj⟩, rfl⟩) hL
      show H1[ad c j]? = some (vp_cell _ _)
      rw [e1]
      show some (Cell.setSlot (vp_cell _ _) _ _) = _
      · rw [vp_cell_i, vp_cell_i, arrV_store]
        congr 2
        funext q
        by_cases hq : q = i.toNatClampNeg
        · subst hq; simp [updV, up1, ga_sa]
        · simp [updV, up1, ga_sa, hq]
    · exact k.elim
  · exact k.elim
theorem v_castore {M : MD} {h pc : Nat} {L : LVs} {st : List AV} {S : ST} {Q : Option AV → ST → Prop} {N : KK} (d : decode M.2.1 pc = .ok (.castore, 1)) (hN : ∀ L st S, N L st S → V M h (pc + 1) L st S Q) (k : o_cast L st S N) : V M h pc L st S Q := by
  unfold o_cast at k
  split at k
  · rename_i x i c j _
    split at k
    · rename_i n y hly
      obtain ⟨hj, hin, hx, k⟩ := k
      intro p l e R s m args below meth cc D ad cA G H locs ls hR hS hL
      refine W.cast G.1 G.2.1 (hR c j _ hly hj) ((G.2.2.2.2.2.2.1.2 2 _ rfl).1 n (fun j => Value.int (ga S _ _ j))) (fun q => by cases q) (by show ¬ (i < 0 ∨ (arrV _ _ _).slots.size ≤ _); rw [arrV_size]; exact hin) rfl rfl d fun H1 e1 z oq => ?_
      refine hN _ _ _ k p l e R s m args below meth cc D ad cA G H1 _ ls (rep_upd hR G.2.2.2.2.2.2.2.2.2.1 hly hj ?_ oq (fun c' j' kd' hd => en_sa kd' hd)) (hS.put z oq ⟨c, j, ⟨⟨_, hly⟩, hj⟩, rfl⟩) hL
      show H1[ad c j]? = some (vp_cell _ _)
      rw [e1]
      show some (Cell.setSlot (vp_cell _ _) _ _) = _
      · rw [vp_cell_i, vp_cell_i, arrV_store]
        congr 2
        funext q
        have hx2 : narrow .char (.int x) = .int x := by
          have e5 : narrow .char (.int x) = .int (vp_nar .char x) := by simp [vp_nar, narrow]
          rw [e5, hx]
        by_cases hq : q = i.toNatClampNeg
        · subst hq; simp [updV, up1, ga_sa, hx2]
        · simp [updV, up1, ga_sa, hq]
    · exact k.elim
  · exact k.elim
theorem v_zastore {M : MD} {h pc : Nat} {L : LVs} {st : List AV} {S : ST} {Q : Option AV → ST → Prop} {N : KK} (d : decode M.2.1 pc = .ok (.bastore, 1)) (hN : ∀ L st S, N L st S → V M h (pc + 1) L st S Q) (k : o_zast L st S N) : V M h pc L st S Q := by
  unfold o_zast at k
  split at k
  · rename_i x i c j _
    split at k
    · rename_i n y hly
      obtain ⟨hj, hin, hx, k⟩ := k
      intro p l e R s m args below meth cc D ad cA G H locs ls hR hS hL
      refine W.zast G.1 G.2.1 (hR c j _ hly hj) ((G.2.2.2.2.2.2.1.2 1 _ rfl).1 n (fun j => Value.int (b2i (gy S _ _ j)))) (fun q => by cases q) (by show ¬ (i < 0 ∨ (arrV _ _ _).slots.size ≤ _); rw [arrV_size]; exact hin) rfl rfl d fun H1 e1 z oq => ?_
      refine hN _ _ _ k p l e R s m args below meth cc D ad cA G H1 _ ls (rep_upd hR G.2.2.2.2.2.2.2.2.2.1 hly hj ?_ oq (fun c' j' kd' hd => en_sy kd' hd)) (hS.put z oq ⟨c, j, ⟨⟨_, hly⟩, hj⟩, rfl⟩) hL
      show H1[ad c j]? = some (vp_cell _ _)
      rw [e1]
      show some (Cell.setSlot (vp_cell _ _) _ _) = _
      · rw [vp_cell_i, vp_cell_i, arrV_store]
        congr 2
        funext q
        have hx2 : narrow .boolean (.int x) = .int (b2i (decide (x = nI 1))) := by rcases hx with rfl | rfl <;> rfl
        by_cases hq : q = i.toNatClampNeg
        · subst hq; simp [updV, up1, gy_sy, hx2]
        · simp [updV, up1, gy_sy, hq]
    · exact k.elim
  · exact k.elim
theorem v_lastore {M : MD} {h pc : Nat} {L : LVs} {st : List AV} {S : ST} {Q : Option AV → ST → Prop} {N : KK} (d : decode M.2.1 pc = .ok (.lastore, 1)) (hN : ∀ L st S, N L st S → V M h (pc + 1) L st S Q) (k : o_last L st S N) : V M h pc L st S Q := by
  unfold o_last at k
  split at k
  · rename_i x i c j _
    split at k
    · rename_i n y hly
      obtain ⟨hj, hin, k⟩ := k
      intro p l e R s m args below meth cc D ad cA G H locs ls hR hS hL
      refine W.last G.1 G.2.1 (hR c j _ hly hj) ((G.2.2.2.2.2.2.1.2 3 _ rfl).1 n (fun j => Value.long (gb S _ _ j))) (fun q => by cases q) (by show ¬ (i < 0 ∨ (arrV _ _ _).slots.size ≤ _); rw [arrV_size]; exact hin) rfl rfl d fun H1 e1 z oq => ?_
      refine hN _ _ _ k p l e R s m args below meth cc D ad cA G H1 _ ls (rep_upd hR G.2.2.2.2.2.2.2.2.2.1 hly hj ?_ oq (fun c' j' kd' hd => en_sb kd' hd)) (hS.put z oq ⟨c, j, ⟨⟨_, hly⟩, hj⟩, rfl⟩) hL
      show H1[ad c j]? = some (vp_cell _ _)
      rw [e1]
      show some (Cell.setSlot (vp_cell _ _) _ _) = _
      · rw [vp_cell_l, vp_cell_l, arrV_store]
        congr 2
        funext q
        by_cases hq : q = i.toNatClampNeg
        · subst hq; simp [updV, up1, gb_sb]
        · simp [updV, up1, gb_sb, hq]
    · exact k.elim
  · exact k.elim
theorem v_if_eq {M : MD} {h pc : Nat} {L : LVs} {st : List AV} {S : ST} {Q : Option AV → ST → Prop} {x : Int32} {off : Int} {tgt : Nat} (d : decode M.2.1 pc = .ok (.ifCond .eq off, 3)) (ht : (pc : Int) + off = (tgt : Int)) (kt : x = 0 → V M h tgt L st S Q) (kf : ¬ x = 0 → V M h (pc + 3) L st S Q) : V M h pc L (vI x :: st) S Q := by
  intro p l e R s m args below meth cc D ad cA G H locs ls hR hS hL
  exact lv_if_eq G.1 G.2.1 d ht (fun z => kt z p l e R s m args below meth cc D ad cA G H locs ls hR hS hL) (fun z => kf z p l e R s m args below meth cc D ad cA G H locs ls hR hS hL)
theorem v_if_ne {M : MD} {h pc : Nat} {L : LVs} {st : List AV} {S : ST} {Q : Option AV → ST → Prop} {x : Int32} {off : Int} {tgt : Nat} (d : decode M.2.1 pc = .ok (.ifCond .ne off, 3)) (ht : (pc : Int) + off = (tgt : Int)) (kt : ¬ x = 0 → V M h tgt L st S Q) (kf : x = 0 → V M h (pc + 3) L st S Q) : V M h pc L (vI x :: st) S Q := by
  intro p l e R s m args below meth cc D ad cA G H locs ls hR hS hL
  exact lv_if_ne G.1 G.2.1 d ht (fun z => kt z p l e R s m args below meth cc D ad cA G H locs ls hR hS hL) (fun z => kf z p l e R s m args below meth cc D ad cA G H locs ls hR hS hL)
theorem v_if_lt {M : MD} {h pc : Nat} {L : LVs} {st : List AV} {S : ST} {Q : Option AV → ST → Prop} {x : Int32} {off : Int} {tgt : Nat} (d : decode M.2.1 pc = .ok (.ifCond .lt off, 3)) (ht : (pc : Int) + off = (tgt : Int)) (kt : x < 0 → V M h tgt L st S Q) (kf : ¬ x < 0 → V M h (pc + 3) L st S Q) : V M h pc L (vI x :: st) S Q := by
  intro p l e R s m args below meth cc D ad cA G H locs ls hR hS hL
  exact lv_if_lt G.1 G.2.1 d ht (fun z => kt z p l e R s m args below meth cc D ad cA G H locs ls hR hS hL) (fun z => kf z p l e R s m args below meth cc D ad cA G H locs ls hR hS hL)
theorem v_if_ge {M : MD} {h pc : Nat} {L : LVs} {st : List AV} {S : ST} {Q : Option AV → ST → Prop} {x : Int32} {off : Int} {tgt : Nat} (d : decode M.2.1 pc = .ok (.ifCond .ge off, 3)) (ht : (pc : Int) + off = (tgt : Int)) (kt : 0 ≤ x → V M h tgt L st S Q) (kf : ¬ 0 ≤ x → V M h (pc + 3) L st S Q) : V M h pc L (vI x :: st) S Q := by
  intro p l e R s m args below meth cc D ad cA G H locs ls hR hS hL
  exact lv_if_ge G.1 G.2.1 d ht (fun z => kt z p l e R s m args below meth cc D ad cA G H locs ls hR hS hL) (fun z => kf z p l e R s m args below meth cc D ad cA G H locs ls hR hS hL)
theorem v_if_gt {M : MD} {h pc : Nat} {L : LVs} {st : List AV} {S : ST} {Q : Option AV → ST → Prop} {x : Int32} {off : Int} {tgt : Nat} (d : decode M.2.1 pc = .ok (.ifCond .gt off, 3)) (ht : (pc : Int) + off = (tgt : Int)) (kt : 0 < x → V M h tgt L st S Q) (kf : ¬ 0 < x → V M h (pc + 3) L st S Q) : V M h pc L (vI x :: st) S Q := by
  intro p l e R s m args below meth cc D ad cA G H locs ls hR hS hL
  exact lv_if_gt G.1 G.2.1 d ht (fun z => kt z p l e R s m args below meth cc D ad cA G H locs ls hR hS hL) (fun z => kf z p l e R s m args below meth cc D ad cA G H locs ls hR hS hL)
theorem v_if_le {M : MD} {h pc : Nat} {L : LVs} {st : List AV} {S : ST} {Q : Option AV → ST → Prop} {x : Int32} {off : Int} {tgt : Nat} (d : decode M.2.1 pc = .ok (.ifCond .le off, 3)) (ht : (pc : Int) + off = (tgt : Int)) (kt : x ≤ 0 → V M h tgt L st S Q) (kf : ¬ x ≤ 0 → V M h (pc + 3) L st S Q) : V M h pc L (vI x :: st) S Q := by
  intro p l e R s m args below meth cc D ad cA G H locs ls hR hS hL
  exact lv_if_le G.1 G.2.1 d ht (fun z => kt z p l e R s m args below meth cc D ad cA G H locs ls hR hS hL) (fun z => kf z p l e R s m args below meth cc D ad cA G H locs ls hR hS hL)
theorem v_icmp_eq {M : MD} {h pc : Nat} {L : LVs} {st : List AV} {S : ST} {Q : Option AV → ST → Prop} {x y : Int32} {off : Int} {tgt : Nat} (d : decode M.2.1 pc = .ok (.if_icmp .eq off, 3)) (ht : (pc : Int) + off = (tgt : Int)) (kt : x = y → V M h tgt L st S Q) (kf : ¬ x = y → V M h (pc + 3) L st S Q) : V M h pc L (vI y :: vI x :: st) S Q := by
  intro p l e R s m args below meth cc D ad cA G H locs ls hR hS hL
  exact lv_icmp_eq G.1 G.2.1 d ht (fun z => kt z p l e R s m args below meth cc D ad cA G H locs ls hR hS hL) (fun z => kf z p l e R s m args below meth cc D ad cA G H locs ls hR hS hL)
theorem v_icmp_ne {M : MD} {h pc : Nat} {L : LVs} {st : List AV} {S : ST} {Q : Option AV → ST → Prop} {x y : Int32} {off : Int} {tgt : Nat} (d : decode M.2.1 pc = .ok (.if_icmp .ne off, 3)) (ht : (pc : Int) + off = (tgt : Int)) (kt : ¬ x = y → V M h tgt L st S Q) (kf : x = y → V M h (pc + 3) L st S Q) : V M h pc L (vI y :: vI x :: st) S Q := by
  intro p l e R s m args below meth cc D ad cA G H locs ls hR hS hL
  exact lv_icmp_ne G.1 G.2.1 d ht (fun z => kt z p l e R s m args below meth cc D ad cA G H locs ls hR hS hL) (fun z => kf z p l e R s m args below meth cc D ad cA G H locs ls hR hS hL)
theorem v_icmp_lt {M : MD} {h pc : Nat} {L : LVs} {st : List AV} {S : ST} {Q : Option AV → ST → Prop} {x y : Int32} {off : Int} {tgt : Nat} (d : decode M.2.1 pc = .ok (.if_icmp .lt off, 3)) (ht : (pc : Int) + off = (tgt : Int)) (kt : x < y → V M h tgt L st S Q) (kf : ¬ x < y → V M h (pc + 3) L st S Q) : V M h pc L (vI y :: vI x :: st) S Q := by
  intro p l e R s m args below meth cc D ad cA G H locs ls hR hS hL
  exact lv_icmp_lt G.1 G.2.1 d ht (fun z => kt z p l e R s m args below meth cc D ad cA G H locs ls hR hS hL) (fun z => kf z p l e R s m args below meth cc D ad cA G H locs ls hR hS hL)
theorem v_icmp_ge {M : MD} {h pc : Nat} {L : LVs} {st : List AV} {S : ST} {Q : Option AV → ST → Prop} {x y : Int32} {off : Int} {tgt : Nat} (d : decode M.2.1 pc = .ok (.if_icmp .ge off, 3)) (ht : (pc : Int) + off = (tgt : Int)) (kt : y ≤ x → V M h tgt L st S Q) (kf : ¬ y ≤ x → V M h (pc + 3) L st S Q) : V M h pc L (vI y :: vI x :: st) S Q := by
  intro p l e R s m args below meth cc D ad cA G H locs ls hR hS hL
  exact lv_icmp_ge G.1 G.2.1 d ht (fun z => kt z p l e R s m args below meth cc D ad cA G H locs ls hR hS hL) (fun z => kf z p l e R s m args below meth cc D ad cA G H locs ls hR hS hL)
theorem v_icmp_gt {M : MD} {h pc : Nat} {L : LVs} {st : List AV} {S : ST} {Q : Option AV → ST → Prop} {x y : Int32} {off : Int} {tgt : Nat} (d : decode M.2.1 pc = .ok (.if_icmp .gt off, 3)) (ht : (pc : Int) + off = (tgt : Int)) (kt : y < x → V M h tgt L st S Q) (kf : ¬ y < x → V M h (pc + 3) L st S Q) : V M h pc L (vI y :: vI x :: st) S Q := by
  intro p l e R s m args below meth cc D ad cA G H locs ls hR hS hL
  exact lv_icmp_gt G.1 G.2.1 d ht (fun z => kt z p l e R s m args below meth cc D ad cA G H locs ls hR hS hL) (fun z => kf z p l e R s m args below meth cc D ad cA G H locs ls hR hS hL)
theorem v_icmp_le {M : MD} {h pc : Nat} {L : LVs} {st : List AV} {S : ST} {Q : Option AV → ST → Prop} {x y : Int32} {off : Int} {tgt : Nat} (d : decode M.2.1 pc = .ok (.if_icmp .le off, 3)) (ht : (pc : Int) + off = (tgt : Int)) (kt : x ≤ y → V M h tgt L st S Q) (kf : ¬ x ≤ y → V M h (pc + 3) L st S Q) : V M h pc L (vI y :: vI x :: st) S Q := by
  intro p l e R s m args below meth cc D ad cA G H locs ls hR hS hL
  exact lv_icmp_le G.1 G.2.1 d ht (fun z => kt z p l e R s m args below meth cc D ad cA G H locs ls hR hS hL) (fun z => kf z p l e R s m args below meth cc D ad cA G H locs ls hR hS hL)
theorem v_goto {M : MD} {h pc : Nat} {L : LVs} {st : List AV} {S : ST} {Q : Option AV → ST → Prop} {off : Int} {tgt : Nat} (d : decode M.2.1 pc = .ok (.goto off, 3)) (ht : (pc : Int) + off = (tgt : Int)) (k : V M h tgt L st S Q) : V M h pc L st S Q := by
  intro p l e R s m args below meth cc D ad cA G H locs ls hR hS hL
  exact lv_goto G.1 G.2.1 d ht (k p l e R s m args below meth cc D ad cA G H locs ls hR hS hL)
theorem v_tsw {M : MD} {h pc : Nat} {L : LVs} {st : List AV} {S : ST} {Q : Option AV → ST → Prop} {x : Int32} {dflt lo hi : Int} {offs : Array Int} {len : Nat} (d : decode M.2.1 pc = .ok (.tableswitch dflt lo hi offs, len)) (k : ∀ tgt : Nat, ((x.toInt < lo ∨ hi < x.toInt) ∧ (pc : Int) + dflt = (tgt : Int)) ∨ (¬ x.toInt < lo ∧ ¬ hi < x.toInt ∧ ∃ off, offs[(x.toInt - lo).toNat]? = some off ∧ (pc : Int) + off = (tgt : Int)) → V M h tgt L st S Q) (hd : ∃ td : Nat, (pc : Int) + dflt = (td : Int)) (ho : ∀ i : Nat, (i : Int) ≤ hi - lo → ∃ (off : Int) (t : Nat), offs[i]? = some off ∧ (pc : Int) + off = (t : Int)) : V M h pc L (vI x :: st) S Q := by
  intro p l e R s m args below meth cc D ad cA G H locs ls hR hS hL
  by_cases h1 : x.toInt < lo ∨ hi < x.toInt
  · obtain ⟨td, hd⟩ := hd
    exact lv_tableOut G.1 G.2.1 d h1 hd (k td (Or.inl ⟨h1, hd⟩) p l e R s m args below meth cc D ad cA G H locs ls hR hS hL)
  · have h2 : ¬ x.toInt < lo := fun z => h1 (Or.inl z)
    have h3 : ¬ hi < x.toInt := fun z => h1 (Or.inr z)
    obtain ⟨off, t, e1, e2⟩ := ho (x.toInt - lo).toNat (by omega)
    exact lv_tableIn G.1 G.2.1 d h2 h3 e1 e2 (k t (Or.inr ⟨h2, h3, off, e1, e2⟩) p l e R s m args below meth cc D ad cA G H locs ls hR hS hL)
theorem v_lsw {M : MD} {h pc : Nat} {L : LVs} {st : List AV} {S : ST} {Q : Option AV → ST → Prop} {x : Int32} {dflt : Int} {ps : Array (Int × Int)} {len tgt : Nat} {off : Int} (d : decode M.2.1 pc = .ok (.lookupswitch dflt ps, len)) (hp : (ps.toList.zip (ps.toList.drop 1)).all (fun (a, next) => a.1 < next.1) = true) (ho : Op.lookupswitch.offset ps.toList dflt x.toInt = off) (ht : (pc : Int) + off = (tgt : Int)) (k : V M h tgt L st S Q) : V M h pc L (vI x :: st) S Q := by
  intro p l e R s m args below meth cc D ad cA G H locs ls hR hS hL
  exact lv_lookup G.1 G.2.1 d hp ho ht (k p l e R s m args below meth cc D ad cA G H locs ls hR hS hL)
theorem v_ireturn {M : MD} {h pc : Nat} {L : LVs} {S : ST} {Q : Option AV → ST → Prop} {x : Int32} (d : decode M.2.1 pc = .ok (.ireturn, 1)) (hr : M.2.2.2 = some .int) (k : Q (some (vI x)) S) : V M h pc L [vI x] S Q := by
  intro p l e R s m args below meth cc D ad cA G H locs ls hR hS hL
  exact W.iret (hlocks := G.2.2.2.2.2.2.2.1) G.1 G.2.1 (G.2.2.1.trans hr) (fun t ht hw => ⟨some (vI x), S, rfl, k, by rw [ht]; exact hR, hS.F ht⟩) hS.2.2 d
theorem v_lreturn {M : MD} {h pc : Nat} {L : LVs} {S : ST} {Q : Option AV → ST → Prop} {x : Int64} (d : decode M.2.1 pc = .ok (.lreturn, 1)) (hr : M.2.2.2 = some .long) (k : Q (some (vL x)) S) : V M h pc L [vL x] S Q := by
  intro p l e R s m args below meth cc D ad cA G H locs ls hR hS hL
  exact W.lret (hlocks := G.2.2.2.2.2.2.2.1) G.1 G.2.1 (G.2.2.1.trans hr) (fun t ht hw => ⟨some (vL x), S, rfl, k, by rw [ht]; exact hR, hS.F ht⟩) hS.2.2 d
theorem v_zreturn {M : MD} {h pc : Nat} {L : LVs} {S : ST} {Q : Option AV → ST → Prop} {x : Int32} (d : decode M.2.1 pc = .ok (.ireturn, 1)) (hr : M.2.2.2 = some .boolean) (hx : x = nI 0 ∨ x = nI 1) (k : Q (some (vI x)) S) : V M h pc L [vI x] S Q := by
  intro p l e R s m args below meth cc D ad cA G H locs ls hR hS hL
  exact W.zret (hlocks := G.2.2.2.2.2.2.2.1) G.1 G.2.1 (G.2.2.1.trans hr) (by rcases hx with rfl | rfl <;> rfl) (fun t ht hw => ⟨some (vI x), S, rfl, k, by rw [ht]; exact hR, hS.F ht⟩) hS.2.2 d
theorem v_areturn {M : MD} {h pc : Nat} {L : LVs} {S : ST} {Q : Option AV → ST → Prop} {c j : Nat} {cn : String} (d : decode M.2.1 pc = .ok (.areturn, 1)) (hr : M.2.2.2 = some (.object cn)) (k : Q (some (vR c j)) S) : V M h pc L [vR c j] S Q := by
  intro p l e R s m args below meth cc D ad cA G H locs ls hR hS hL
  exact W.aret (hlocks := G.2.2.2.2.2.2.2.1) G.1 G.2.1 (G.2.2.1.trans hr) (Or.inl ⟨_, rfl⟩) (Or.inr ⟨_, rfl⟩) (fun t ht hw => ⟨some (vR c j), S, rfl, k, by rw [ht]; exact hR, hS.F ht⟩) hS.2.2 d
theorem v_return {M : MD} {h pc : Nat} {L : LVs} {S : ST} {Q : Option AV → ST → Prop} (d : decode M.2.1 pc = .ok (.return_, 1)) (hr : M.2.2.2 = none) (k : Q none S) : V M h pc L [] S Q := by
  intro p l e R s m args below meth cc D ad cA G H locs ls hR hS hL
  exact W.vret (hlocks := G.2.2.2.2.2.2.2.1) G.1 G.2.1 (G.2.2.1.trans hr) (fun t ht hw => ⟨none, S, rfl, k, by rw [ht]; exact hR, hS.F ht⟩) hS.2.2 d
