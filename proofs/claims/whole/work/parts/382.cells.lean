-- deps: 380 379 381
-- the cells behind both constructors, as the loop wants them (gen376.py)
def WS (cA : Nat → ClassId) (qF qM : Nat) (a b : Nat → Nat) : va_W := [(qF, .inr (10, [.ref (a 0), .int (nI 0), .ref (a 1), .ref (a 4), .ref (a 44), .ref (a 45), .ref (a 47), .ref (a 48)])), ((a 0), .inl (cA 2, 200, .inl (fun _ => nI 0))), ((a 1), .inr (9, [.ref (a 2), .ref (a 3), .int (nI 0)])), ((a 2), .inl (cA 0, 200, .inl (fun _ => nI 0))), ((a 3), .inl (cA 0, 200, .inl (fun _ => nI 0))), ((a 6), .inr (7, [.ref (a 7), .ref (a 8), .ref (a 9), .ref (a 10), .ref (a 11), .int (nI 0), .int (nI 0), .int (nI 0)])), ((a 7), .inl (cA 0, 4, .inl (fun _ => nI 0))), ((a 8), .inl (cA 0, 4, .inl (fun _ => nI 0))), ((a 9), .inl (cA 3, 96, .inr (.inl (fun _ => lN 0)))), ((a 10), .inl (cA 1, 24, .inl (fun _ => nI 0))), ((a 11), .inl (cA 3, 24, .inr (.inl (fun _ => lN 0)))), ((a 12), .inr (7, [.ref (a 13), .ref (a 14), .ref (a 15), .ref (a 16), .ref (a 17), .int (nI 0), .int (nI 0), .int (nI 0)])), ((a 13), .inl (cA 0, 4, .inl (fun _ => nI 0))), ((a 14), .inl (cA 0, 4, .inl (fun _ => nI 0))), ((a 15), .inl (cA 3, 96, .inr (.inl (fun _ => lN 0)))), ((a 16), .inl (cA 1, 24, .inl (fun _ => nI 0))), ((a 17), .inl (cA 3, 24, .inr (.inl (fun _ => lN 0)))), ((a 18), .inr (7, [.ref (a 19), .ref (a 20), .ref (a 21), .ref (a 22), .ref (a 23), .int (nI 0), .int (nI 0), .int (nI 0)])), ((a 19), .inl (cA 0, 4, .inl (fun _ => nI 0))), ((a 20), .inl (cA 0, 4, .inl (fun _ => nI 0))), ((a 21), .inl (cA 3, 96, .inr (.inl (fun _ => lN 0)))), ((a 22), .inl (cA 1, 24, .inl (fun _ => nI 0))), ((a 23), .inl (cA 3, 24, .inr (.inl (fun _ => lN 0)))), ((a 24), .inr (7, [.ref (a 25), .ref (a 26), .ref (a 27), .ref (a 28), .ref (a 29), .int (nI 0), .int (nI 0), .int (nI 0)])), ((a 25), .inl (cA 0, 4, .inl (fun _ => nI 0))), ((a 26), .inl (cA 0, 4, .inl (fun _ => nI 0))), ((a 27), .inl (cA 3, 96, .inr (.inl (fun _ => lN 0)))), ((a 28), .inl (cA 1, 24, .inl (fun _ => nI 0))), ((a 29), .inl (cA 3, 24, .inr (.inl (fun _ => lN 0)))), ((a 32), .inl (cA 0, 256, .inl (fun _ => nI 0))), ((a 33), .inl (cA 0, 256, .inl (fun _ => nI 0))), ((a 34), .inl (cA 0, 2, .inl (fun _ => nI 0))), ((a 35), .inl (cA 0, 2, .inl (fun _ => nI 0))), ((a 36), .inl (cA 0, 4, .inl (fun _ => nI 0))), ((a 37), .inl (cA 0, 4, .inl (fun _ => nI 0))), ((a 38), .inl (cA 0, 4, .inl (fun _ => nI 0))), ((a 39), .inl (cA 0, 4, .inl (fun _ => nI 0))), ((a 40), .inl (cA 0, 4, .inl (fun _ => nI 0))), ((a 30), .inr (6, [.ref (a 31), .ref (a 34), .ref (a 35), .ref (a 36), .ref (a 37), .ref (a 38), .ref (a 39), .ref (a 40), .int (nI 0), .int (nI 0), .int (nI 0), .int (nI 0), .int (-1), .int (-1), .int (-1), .int (-1), .int (nI 0)])), ((a 31), .inr (1, [.ref (a 32), .ref (a 33), .int (nI 0)])), ((a 41), .inr (1, [.ref (a 42), .ref (a 43), .int (nI 0)])), ((a 42), .inl (cA 0, 256, .inl (fun _ => nI 0))), ((a 43), .inl (cA 0, 256, .inl (fun _ => nI 0))), ((a 44), .inr (4, [.ref (a 1), .ref (a 30), .int (nI 0)])), ((a 45), .inr (0, [.ref (a 1), .ref (a 30), .ref (a 4), .ref (a 46), .int (nI 0), .int (nI 0)])), ((a 46), .inl (cA 0, 200, .inl (fun _ => nI 0))), ((a 47), .inr (3, [.ref (a 30), .ref (a 41)])), ((a 48), .inr (2, [.ref (a 41), .ref (a 4), .ref (a 49), .ref (a 50), .ref (a 54), .ref (a 6), .ref (a 6), .int (nI 0), .int (nI 0), .int (nI 0), .int (nI 0), .int (nI 0), .int (nI 0), .int (nI 0), .int (nI 1), .long (lN 0), .long (lN 0), .long (lN 0)])), ((a 49), .inl (cA 3, 10, .inr (.inl (fun _ => lN 0)))), ((a 50), .inr (5, [.ref (a 51), .ref (a 52), .ref (a 53), .int (nI 0), .int (nI 0)])), ((a 51), .inl (cA 3, 2304, .inr (.inl (fun _ => lN 0)))), ((a 52), .inl (cA 0, 576, .inl (fun _ => nI 0))), ((a 53), .inl (cA 0, 576, .inl (fun _ => nI 0))), ((a 54), .inr (5, [.ref (a 55), .ref (a 56), .ref (a 57), .int (nI 0), .int (nI 0)])), ((a 55), .inl (cA 3, 2304, .inr (.inl (fun _ => lN 0)))), ((a 56), .inl (cA 0, 576, .inl (fun _ => nI 0))), ((a 57), .inl (cA 0, 576, .inl (fun _ => nI 0))), ((a 4), .inr (8, [.ref (a 5), .int (nI 0)])), ((a 5), .inl (cA 4, 4, .inr (.inr (.inr (.inr (va_up (va_up (va_up (va_up (fun _ => none) 0 (some (a 6))) 1 (some (a 12))) 2 (some (a 18))) 3 (some (a 24)))))))), (qM, .inr (11, [.ref (b 0), .int (nI 0), .ref (b 1), .ref (b 2), .int (nI 0), .int (nI 0), .int (nI 0), .int (nI 0), .ref (b 3), .ref (b 4), .ref (b 5), .ref (b 6), .ref (b 7), .ref (b 8), .ref (b 9), .int (nI 0), .int (nI 0), .ref (b 10), .ref (b 11), .ref (b 12), .ref (b 13), .ref (b 14), .ref (b 15), .ref (b 16), .int (nI 0), .ref (b 17), .ref (b 18), .ref (b 19), .int (nI 0), .int (nI 0), .int (nI 0), .int (nI 0), .ref (b 20), .ref (b 21), .int (nI 0), .ref (b 22), .ref (b 23), .ref (b 24), .ref (b 25), .ref (b 26), .int (nI 0), .ref (b 27), .ref (b 28), .ref (b 29)])), ((b 0), .inl (cA 0, 200, .inl (fun _ => nI 0))), ((b 1), .inl (cA 0, 202, .inl (fun _ => nI 0))), ((b 2), .inl (cA 3, 202, .inr (.inl (fun _ => lN 0)))), ((b 3), .inl (cA 0, 220, .inl (fun _ => nI 0))), ((b 4), .inl (cA 0, 220, .inl (fun _ => nI 0))), ((b 5), .inl (cA 0, 220, .inl (fun _ => nI 0))), ((b 6), .inl (cA 3, 220, .inr (.inl (fun _ => lN 0)))), ((b 7), .inl (cA 3, 220, .inr (.inl (fun _ => lN 0)))), ((b 8), .inl (cA 0, 220, .inl (fun _ => nI 0))), ((b 9), .inl (cA 0, 220, .inl (fun _ => nI 0))), ((b 10), .inl (cA 3, 4, .inr (.inl (fun _ => lN 0)))), ((b 11), .inl (cA 0, 4, .inl (fun _ => nI 0))), ((b 12), .inl (cA 3, 16, .inr (.inl (fun _ => lN 0)))), ((b 13), .inl (cA 1, 16, .inl (fun _ => nI 0))), ((b 14), .inl (cA 0, 4, .inl (fun _ => nI 0))), ((b 15), .inl (cA 0, 384, .inl (fun _ => nI 0))), ((b 16), .inl (cA 1, 384, .inl (fun _ => nI 0))), ((b 17), .inl (cA 3, 2, .inr (.inl (fun _ => lN 0)))), ((b 18), .inl (cA 0, 2, .inl (fun _ => nI 0))), ((b 19), .inl (cA 0, 2, .inl (fun _ => nI 0))), ((b 20), .inl (cA 0, 2304, .inl (fun _ => nI 0))), ((b 21), .inl (cA 1, 2304, .inl (fun _ => nI 0))), ((b 22), .inl (cA 0, 2304, .inl (fun _ => nI 0))), ((b 23), .inl (cA 1, 2304, .inl (fun _ => nI 0))), ((b 24), .inl (cA 3, 2304, .inr (.inl (fun _ => lN 0)))), ((b 25), .inl (cA 0, 2304, .inl (fun _ => nI 0))), ((b 26), .inl (cA 0, 4, .inl (fun _ => nI 0))), ((b 27), .inl (cA 0, 24, .inl (fun _ => nI 0))), ((b 28), .inl (cA 1, 24, .inl (fun _ => nI 0))), ((b 29), .inl (cA 1, 24, .inl (fun _ => nI 0)))]
def adS (qF qM : Nat) (a b k v : Nat → Nat) (c : Nat) : Nat → Nat := match c with
  | 0 => fun j => [a 45].getD j 0
  | 1 => fun j => [a 31, a 41].getD j 0
  | 2 => fun j => [a 48].getD j 0
  | 3 => fun j => [a 47].getD j 0
  | 4 => fun j => [a 44].getD j 0
  | 5 => fun j => [a 50, a 54].getD j 0
  | 6 => fun j => [a 30].getD j 0
  | 7 => fun j => [a 6, a 12, a 18, a 24].getD j 0
  | 8 => fun j => [a 4].getD j 0
  | 9 => fun j => [a 1].getD j 0
  | 10 => fun j => [qF].getD j 0
  | 11 => fun j => [qM].getD j 0
  | 12 => fun j => [a 46].getD j 0
  | 13 => fun j => [a 32, a 42].getD j 0
  | 14 => fun j => [a 33, a 43].getD j 0
  | 15 => fun j => [a 49].getD j 0
  | 16 => fun j => [].getD j 0
  | 17 => fun j => [].getD j 0
  | 18 => fun j => [a 51, a 55].getD j 0
  | 19 => fun j => [].getD j 0
  | 20 => fun j => [a 52, a 56].getD j 0
  | 21 => fun j => [a 53, a 57].getD j 0
  | 22 => fun j => [a 34].getD j 0
  | 23 => fun j => [a 35].getD j 0
  | 24 => fun j => [a 36].getD j 0
  | 25 => fun j => [a 37].getD j 0
  | 26 => fun j => [a 38].getD j 0
  | 27 => fun j => [a 39].getD j 0
  | 28 => fun j => [a 40].getD j 0
  | 29 => fun j => [a 7, a 13, a 19, a 25].getD j 0
  | 30 => fun j => [a 8, a 14, a 20, a 26].getD j 0
  | 31 => fun j => [a 9, a 15, a 21, a 27].getD j 0
  | 32 => fun j => [].getD j 0
  | 33 => fun j => [a 10, a 16, a 22, a 28].getD j 0
  | 34 => fun j => [a 11, a 17, a 23, a 29].getD j 0
  | 35 => fun j => [].getD j 0
  | 36 => fun j => [a 5].getD j 0
  | 37 => fun j => [a 2].getD j 0
  | 38 => fun j => [a 3].getD j 0
  | 39 => fun j => [a 0].getD j 0
  | 40 => fun j => [b 0].getD j 0
  | 41 => fun j => [b 1].getD j 0
  | 42 => fun j => [b 2].getD j 0
  | 43 => fun j => [b 3].getD j 0
  | 44 => fun j => [b 4].getD j 0
  | 45 => fun j => [b 5].getD j 0
  | 46 => fun j => [b 6].getD j 0
  | 47 => fun j => [b 7].getD j 0
  | 48 => fun j => [b 8].getD j 0
  | 49 => fun j => [b 9].getD j 0
  | 50 => fun j => [b 10].getD j 0
  | 51 => fun j => [b 11].getD j 0
  | 52 => fun j => [b 12].getD j 0
  | 53 => fun j => [b 13].getD j 0
  | 54 => fun j => [b 14].getD j 0
  | 55 => fun j => [b 15].getD j 0
  | 56 => fun j => [b 16].getD j 0
  | 57 => fun j => [b 17].getD j 0
  | 58 => fun j => [b 18].getD j 0
  | 59 => fun j => [b 19].getD j 0
  | 60 => fun j => [b 20].getD j 0
  | 61 => fun j => [b 21].getD j 0
  | 62 => fun j => [b 22].getD j 0
  | 63 => fun j => [b 23].getD j 0
  | 64 => fun j => [b 24].getD j 0
  | 65 => fun j => [b 25].getD j 0
  | 66 => fun j => [b 26].getD j 0
  | 67 => fun j => [b 27].getD j 0
  | 68 => fun j => [b 28].getD j 0
  | 69 => fun j => [b 29].getD j 0
  | 1000 => k
  | 1001 => v
  | _ => fun _ => 0
def poS (c : Nat) : Nat → Nat := match c with
  | 0 => fun j => [44].getD j 0
  | 1 => fun j => [39, 40].getD j 0
  | 2 => fun j => [47].getD j 0
  | 3 => fun j => [46].getD j 0
  | 4 => fun j => [43].getD j 0
  | 5 => fun j => [49, 53].getD j 0
  | 6 => fun j => [38].getD j 0
  | 7 => fun j => [5, 11, 17, 23].getD j 0
  | 8 => fun j => [57].getD j 0
  | 9 => fun j => [2].getD j 0
  | 10 => fun j => [0].getD j 0
  | 11 => fun j => [59].getD j 0
  | 12 => fun j => [45].getD j 0
  | 13 => fun j => [29, 41].getD j 0
  | 14 => fun j => [30, 42].getD j 0
  | 15 => fun j => [48].getD j 0
  | 16 => fun j => [].getD j 0
  | 17 => fun j => [].getD j 0
  | 18 => fun j => [50, 54].getD j 0
  | 19 => fun j => [].getD j 0
  | 20 => fun j => [51, 55].getD j 0
  | 21 => fun j => [52, 56].getD j 0
  | 22 => fun j => [31].getD j 0
  | 23 => fun j => [32].getD j 0
  | 24 => fun j => [33].getD j 0
  | 25 => fun j => [34].getD j 0
  | 26 => fun j => [35].getD j 0
  | 27 => fun j => [36].getD j 0
  | 28 => fun j => [37].getD j 0
  | 29 => fun j => [6, 12, 18, 24].getD j 0
  | 30 => fun j => [7, 13, 19, 25].getD j 0
  | 31 => fun j => [8, 14, 20, 26].getD j 0
  | 32 => fun j => [].getD j 0
  | 33 => fun j => [9, 15, 21, 27].getD j 0
  | 34 => fun j => [10, 16, 22, 28].getD j 0
  | 35 => fun j => [].getD j 0
  | 36 => fun j => [58].getD j 0
  | 37 => fun j => [3].getD j 0
  | 38 => fun j => [4].getD j 0
  | 39 => fun j => [1].getD j 0
  | 40 => fun j => [60].getD j 0
  | 41 => fun j => [61].getD j 0
  | 42 => fun j => [62].getD j 0
  | 43 => fun j => [63].getD j 0
  | 44 => fun j => [64].getD j 0
  | 45 => fun j => [65].getD j 0
  | 46 => fun j => [66].getD j 0
  | 47 => fun j => [67].getD j 0
  | 48 => fun j => [68].getD j 0
  | 49 => fun j => [69].getD j 0
  | 50 => fun j => [70].getD j 0
  | 51 => fun j => [71].getD j 0
  | 52 => fun j => [72].getD j 0
  | 53 => fun j => [73].getD j 0
  | 54 => fun j => [74].getD j 0
  | 55 => fun j => [75].getD j 0
  | 56 => fun j => [76].getD j 0
  | 57 => fun j => [77].getD j 0
  | 58 => fun j => [78].getD j 0
  | 59 => fun j => [79].getD j 0
  | 60 => fun j => [80].getD j 0
  | 61 => fun j => [81].getD j 0
  | 62 => fun j => [82].getD j 0
  | 63 => fun j => [83].getD j 0
  | 64 => fun j => [84].getD j 0
  | 65 => fun j => [85].getD j 0
  | 66 => fun j => [86].getD j 0
  | 67 => fun j => [87].getD j 0
  | 68 => fun j => [88].getD j 0
  | 69 => fun j => [89].getD j 0
  | _ => fun _ => 0
def ivS : List (Nat × Nat) := [(10, 0), (39, 0), (9, 0), (37, 0), (38, 0), (7, 0), (29, 0), (30, 0), (31, 0), (33, 0), (34, 0), (7, 1), (29, 1), (30, 1), (31, 1), (33, 1), (34, 1), (7, 2), (29, 2), (30, 2), (31, 2), (33, 2), (34, 2), (7, 3), (29, 3), (30, 3), (31, 3), (33, 3), (34, 3), (13, 0), (14, 0), (22, 0), (23, 0), (24, 0), (25, 0), (26, 0), (27, 0), (28, 0), (6, 0), (1, 0), (1, 1), (13, 1), (14, 1), (4, 0), (0, 0), (12, 0), (3, 0), (2, 0), (15, 0), (5, 0), (18, 0), (20, 0), (21, 0), (5, 1), (18, 1), (20, 1), (21, 1), (8, 0), (36, 0), (11, 0), (40, 0), (41, 0), (42, 0), (43, 0), (44, 0), (45, 0), (46, 0), (47, 0), (48, 0), (49, 0), (50, 0), (51, 0), (52, 0), (53, 0), (54, 0), (55, 0), (56, 0), (57, 0), (58, 0), (59, 0), (60, 0), (61, 0), (62, 0), (63, 0), (64, 0), (65, 0), (66, 0), (67, 0), (68, 0), (69, 0)]
def S0 : ST := (fun c k _ => (match c with | 6 => (match k with | 12 => -1 | 13 => -1 | 14 => -1 | 15 => -1 | _ => nI 0) | _ => nI 0), fun _ _ _ => lN 0, fun c k _ => (match c with | 2 => (match k with | 14 => true | _ => false) | _ => false), fun c k _ => (match c with | 2 => (match k with | 4 => 1 | _ => 0) | _ => 0), fun _ _ _ => nI 0, fun _ _ _ => lN 0, fun _ _ _ => false)
theorem arrV_ext {cI : ClassId} {N : Nat} {f g : Nat → Value} (h : ∀ i, i < N → f i = g i) : arrV cI N f = arrV cI N g := by
  unfold arrV
  congr 1
  congr 1
  funext j
  exact h j.val j.isLt
theorem LY_hi {c : Nat} {kd : KD} (h : LY c = some kd) : c < 70 := by
  rcases Nat.lt_or_ge c 70 with q | q
  · exact q
  · exfalso
    obtain ⟨n, rfl⟩ : ∃ n, c = n + 70 := ⟨c - 70, by omega⟩
    simp [LY] at h
section
variable {D : va_G} {cA : Nat → ClassId} {qF qM : Nat} {a b k v : Nat → Nat} {H : Heap}
set_option maxHeartbeats 4000000 in
set_option maxRecDepth 100000 in
theorem ws_at {c j : Nat} {kd : KD} (hc : LY c = some kd) (hj : j < NI c) : ∃ e, (WS cA qF qM a b)[poS c j]? = some (adS qF qM a b k v c j, e) ∧ ivS[poS c j]? = some (c, j) := by
  match c, hc with
  | 0, hc =>
    cases hc
    have hj : j < 1 := hj
    match j, hj with
    | 0, _ => exact ⟨_, rfl, rfl⟩
    | j + 1, h => exact absurd h (by omega)
  | 1, hc =>
    cases hc
    have hj : j < 2 := hj
    match j, hj with
    | 0, _ => exact ⟨_, rfl, rfl⟩
    | 1, _ => exact ⟨_, rfl, rfl⟩
    | j + 2, h => exact absurd h (by omega)
  | 2, hc =>
    cases hc
    have hj : j < 1 := hj
    match j, hj with
    | 0, _ => exact ⟨_, rfl, rfl⟩
    | j + 1, h => exact absurd h (by omega)
  | 3, hc =>
    cases hc
    have hj : j < 1 := hj
    match j, hj with
    | 0, _ => exact ⟨_, rfl, rfl⟩
    | j + 1, h => exact absurd h (by omega)
  | 4, hc =>
    cases hc
    have hj : j < 1 := hj
    match j, hj with
    | 0, _ => exact ⟨_, rfl, rfl⟩
    | j + 1, h => exact absurd h (by omega)
  | 5, hc =>
    cases hc
    have hj : j < 2 := hj
    match j, hj with
    | 0, _ => exact ⟨_, rfl, rfl⟩
    | 1, _ => exact ⟨_, rfl, rfl⟩
    | j + 2, h => exact absurd h (by omega)
  | 6, hc =>
    cases hc
    have hj : j < 1 := hj
    match j, hj with
    | 0, _ => exact ⟨_, rfl, rfl⟩
    | j + 1, h => exact absurd h (by omega)
  | 7, hc =>
    cases hc
    have hj : j < 4 := hj
    match j, hj with
    | 0, _ => exact ⟨_, rfl, rfl⟩
    | 1, _ => exact ⟨_, rfl, rfl⟩
    | 2, _ => exact ⟨_, rfl, rfl⟩
    | 3, _ => exact ⟨_, rfl, rfl⟩
    | j + 4, h => exact absurd h (by omega)
  | 8, hc =>
    cases hc
    have hj : j < 1 := hj
    match j, hj with
    | 0, _ => exact ⟨_, rfl, rfl⟩
    | j + 1, h => exact absurd h (by omega)
  | 9, hc =>
    cases hc
    have hj : j < 1 := hj
    match j, hj with
    | 0, _ => exact ⟨_, rfl, rfl⟩
    | j + 1, h => exact absurd h (by omega)
  | 10, hc =>
    cases hc
    have hj : j < 1 := hj
    match j, hj with
    | 0, _ => exact ⟨_, rfl, rfl⟩
    | j + 1, h => exact absurd h (by omega)
  | 11, hc =>
    cases hc
    have hj : j < 1 := hj
    match j, hj with
    | 0, _ => exact ⟨_, rfl, rfl⟩
    | j + 1, h => exact absurd h (by omega)
  | 12, hc =>
    cases hc
    have hj : j < 1 := hj
    match j, hj with
    | 0, _ => exact ⟨_, rfl, rfl⟩
    | j + 1, h => exact absurd h (by omega)
  | 13, hc =>
    cases hc
    have hj : j < 2 := hj
    match j, hj with
    | 0, _ => exact ⟨_, rfl, rfl⟩
    | 1, _ => exact ⟨_, rfl, rfl⟩
    | j + 2, h => exact absurd h (by omega)
  | 14, hc =>
    cases hc
    have hj : j < 2 := hj
    match j, hj with
    | 0, _ => exact ⟨_, rfl, rfl⟩
    | 1, _ => exact ⟨_, rfl, rfl⟩
    | j + 2, h => exact absurd h (by omega)
  | 15, hc =>
    cases hc
    have hj : j < 1 := hj
    match j, hj with
    | 0, _ => exact ⟨_, rfl, rfl⟩
    | j + 1, h => exact absurd h (by omega)
  | 16, hc => exact absurd (LY_16.symm.trans hc) (by simp)
  | 17, hc => exact absurd (LY_17.symm.trans hc) (by simp)
  | 18, hc =>
    cases hc
    have hj : j < 2 := hj
    match j, hj with
    | 0, _ => exact ⟨_, rfl, rfl⟩
    | 1, _ => exact ⟨_, rfl, rfl⟩
    | j + 2, h => exact absurd h (by omega)
  | 19, hc => exact absurd (LY_19.symm.trans hc) (by simp)
  | 20, hc =>
    cases hc
    have hj : j < 2 := hj
    match j, hj with
    | 0, _ => exact ⟨_, rfl, rfl⟩
    | 1, _ => exact ⟨_, rfl, rfl⟩
    | j + 2, h => exact absurd h (by omega)
  | 21, hc =>
    cases hc
    have hj : j < 2 := hj
    match j, hj with
    | 0, _ => exact ⟨_, rfl, rfl⟩
    | 1, _ => exact ⟨_, rfl, rfl⟩
    | j + 2, h => exact absurd h (by omega)
  | 22, hc =>
    cases hc
    have hj : j < 1 := hj
    match j, hj with
    | 0, _ => exact ⟨_, rfl, rfl⟩
    | j + 1, h => exact absurd h (by omega)
  | 23, hc =>
    cases hc
    have hj : j < 1 := hj
    match j, hj with
    | 0, _ => exact ⟨_, rfl, rfl⟩
    | j + 1, h => exact absurd h (by omega)
  | 24, hc =>
    cases hc
    have hj : j < 1 := hj
    match j, hj with
    | 0, _ => exact ⟨_, rfl, rfl⟩
    | j + 1, h => exact absurd h (by omega)
  | 25, hc =>
    cases hc
    have hj : j < 1 := hj
    match j, hj with
    | 0, _ => exact ⟨_, rfl, rfl⟩
    | j + 1, h => exact absurd h (by omega)
  | 26, hc =>
    cases hc
    have hj : j < 1 := hj
    match j, hj with
    | 0, _ => exact ⟨_, rfl, rfl⟩
    | j + 1, h => exact absurd h (by omega)
  | 27, hc =>
    cases hc
    have hj : j < 1 := hj
    match j, hj with
    | 0, _ => exact ⟨_, rfl, rfl⟩
    | j + 1, h => exact absurd h (by omega)
  | 28, hc =>
    cases hc
    have hj : j < 1 := hj
    match j, hj with
    | 0, _ => exact ⟨_, rfl, rfl⟩
    | j + 1, h => exact absurd h (by omega)
  | 29, hc =>
    cases hc
    have hj : j < 4 := hj
    match j, hj with
    | 0, _ => exact ⟨_, rfl, rfl⟩
    | 1, _ => exact ⟨_, rfl, rfl⟩
    | 2, _ => exact ⟨_, rfl, rfl⟩
    | 3, _ => exact ⟨_, rfl, rfl⟩
    | j + 4, h => exact absurd h (by omega)
  | 30, hc =>
    cases hc
    have hj : j < 4 := hj
    match j, hj with
    | 0, _ => exact ⟨_, rfl, rfl⟩
    | 1, _ => exact ⟨_, rfl, rfl⟩
    | 2, _ => exact ⟨_, rfl, rfl⟩
    | 3, _ => exact ⟨_, rfl, rfl⟩
    | j + 4, h => exact absurd h (by omega)
  | 31, hc =>
    cases hc
    have hj : j < 4 := hj
    match j, hj with
    | 0, _ => exact ⟨_, rfl, rfl⟩
    | 1, _ => exact ⟨_, rfl, rfl⟩
    | 2, _ => exact ⟨_, rfl, rfl⟩
    | 3, _ => exact ⟨_, rfl, rfl⟩
    | j + 4, h => exact absurd h (by omega)
  | 32, hc => exact absurd (LY_32.symm.trans hc) (by simp)
  | 33, hc =>
    cases hc
    have hj : j < 4 := hj
    match j, hj with
    | 0, _ => exact ⟨_, rfl, rfl⟩
    | 1, _ => exact ⟨_, rfl, rfl⟩
    | 2, _ => exact ⟨_, rfl, rfl⟩
    | 3, _ => exact ⟨_, rfl, rfl⟩
    | j + 4, h => exact absurd h (by omega)
  | 34, hc =>
    cases hc
    have hj : j < 4 := hj
    match j, hj with
    | 0, _ => exact ⟨_, rfl, rfl⟩
    | 1, _ => exact ⟨_, rfl, rfl⟩
    | 2, _ => exact ⟨_, rfl, rfl⟩
    | 3, _ => exact ⟨_, rfl, rfl⟩
    | j + 4, h => exact absurd h (by omega)
  | 35, hc => exact absurd (LY_35.symm.trans hc) (by simp)
  | 36, hc =>
    cases hc
    have hj : j < 1 := hj
    match j, hj with
    | 0, _ => exact ⟨_, rfl, rfl⟩
    | j + 1, h => exact absurd h (by omega)
  | 37, hc =>
    cases hc
    have hj : j < 1 := hj
    match j, hj with
    | 0, _ => exact ⟨_, rfl, rfl⟩
    | j + 1, h => exact absurd h (by omega)
  | 38, hc =>
    cases hc
    have hj : j < 1 := hj
    match j, hj with
    | 0, _ => exact ⟨_, rfl, rfl⟩
    | j + 1, h => exact absurd h (by omega)
  | 39, hc =>
    cases hc
    have hj : j < 1 := hj
    match j, hj with
    | 0, _ => exact ⟨_, rfl, rfl⟩
    | j + 1, h => exact absurd h (by omega)
  | 40, hc =>
    cases hc
    have hj : j < 1 := hj
    match j, hj with
    | 0, _ => exact ⟨_, rfl, rfl⟩
    | j + 1, h => exact absurd h (by omega)
  | 41, hc =>
    cases hc
    have hj : j < 1 := hj
    match j, hj with
    | 0, _ => exact ⟨_, rfl, rfl⟩
    | j + 1, h => exact absurd h (by omega)
  | 42, hc =>
    cases hc
    have hj : j < 1 := hj
    match j, hj with
    | 0, _ => exact ⟨_, rfl, rfl⟩
    | j + 1, h => exact absurd h (by omega)
  | 43, hc =>
    cases hc
    have hj : j < 1 := hj
    match j, hj with
    | 0, _ => exact ⟨_, rfl, rfl⟩
    | j + 1, h => exact absurd h (by omega)
  | 44, hc =>
    cases hc
    have hj : j < 1 := hj
    match j, hj with
    | 0, _ => exact ⟨_, rfl, rfl⟩
    | j + 1, h => exact absurd h (by omega)
  | 45, hc =>
    cases hc
    have hj : j < 1 := hj
    match j, hj with
    | 0, _ => exact ⟨_, rfl, rfl⟩
    | j + 1, h => exact absurd h (by omega)
  | 46, hc =>
    cases hc
    have hj : j < 1 := hj
    match j, hj with
    | 0, _ => exact ⟨_, rfl, rfl⟩
    | j + 1, h => exact absurd h (by omega)
  | 47, hc =>
    cases hc
    have hj : j < 1 := hj
    match j, hj with
    | 0, _ => exact ⟨_, rfl, rfl⟩
    | j + 1, h => exact absurd h (by omega)
  | 48, hc =>
    cases hc
    have hj : j < 1 := hj
    match j, hj with
    | 0, _ => exact ⟨_, rfl, rfl⟩
    | j + 1, h => exact absurd h (by omega)
  | 49, hc =>
    cases hc
    have hj : j < 1 := hj
    match j, hj with
    | 0, _ => exact ⟨_, rfl, rfl⟩
    | j + 1, h => exact absurd h (by omega)
  | 50, hc =>
    cases hc
    have hj : j < 1 := hj
    match j, hj with
    | 0, _ => exact ⟨_, rfl, rfl⟩
    | j + 1, h => exact absurd h (by omega)
  | 51, hc =>
    cases hc
    have hj : j < 1 := hj
    match j, hj with
    | 0, _ => exact ⟨_, rfl, rfl⟩
    | j + 1, h => exact absurd h (by omega)
  | 52, hc =>
    cases hc
    have hj : j < 1 := hj
    match j, hj with
    | 0, _ => exact ⟨_, rfl, rfl⟩
    | j + 1, h => exact absurd h (by omega)
  | 53, hc =>
    cases hc
    have hj : j < 1 := hj
    match j, hj with
    | 0, _ => exact ⟨_, rfl, rfl⟩
    | j + 1, h => exact absurd h (by omega)
  | 54, hc =>
    cases hc
    have hj : j < 1 := hj
    match j, hj with
    | 0, _ => exact ⟨_, rfl, rfl⟩
    | j + 1, h => exact absurd h (by omega)
  | 55, hc =>
    cases hc
    have hj : j < 1 := hj
    match j, hj with
    | 0, _ => exact ⟨_, rfl, rfl⟩
    | j + 1, h => exact absurd h (by omega)
  | 56, hc =>
    cases hc
    have hj : j < 1 := hj
    match j, hj with
    | 0, _ => exact ⟨_, rfl, rfl⟩
    | j + 1, h => exact absurd h (by omega)
  | 57, hc =>
    cases hc
    have hj : j < 1 := hj
    match j, hj with
    | 0, _ => exact ⟨_, rfl, rfl⟩
    | j + 1, h => exact absurd h (by omega)
  | 58, hc =>
    cases hc
    have hj : j < 1 := hj
    match j, hj with
    | 0, _ => exact ⟨_, rfl, rfl⟩
    | j + 1, h => exact absurd h (by omega)
  | 59, hc =>
    cases hc
    have hj : j < 1 := hj
    match j, hj with
    | 0, _ => exact ⟨_, rfl, rfl⟩
    | j + 1, h => exact absurd h (by omega)
  | 60, hc =>
    cases hc
    have hj : j < 1 := hj
    match j, hj with
    | 0, _ => exact ⟨_, rfl, rfl⟩
    | j + 1, h => exact absurd h (by omega)
  | 61, hc =>
    cases hc
    have hj : j < 1 := hj
    match j, hj with
    | 0, _ => exact ⟨_, rfl, rfl⟩
    | j + 1, h => exact absurd h (by omega)
  | 62, hc =>
    cases hc
    have hj : j < 1 := hj
    match j, hj with
    | 0, _ => exact ⟨_, rfl, rfl⟩
    | j + 1, h => exact absurd h (by omega)
  | 63, hc =>
    cases hc
    have hj : j < 1 := hj
    match j, hj with
    | 0, _ => exact ⟨_, rfl, rfl⟩
    | j + 1, h => exact absurd h (by omega)
  | 64, hc =>
    cases hc
    have hj : j < 1 := hj
    match j, hj with
    | 0, _ => exact ⟨_, rfl, rfl⟩
    | j + 1, h => exact absurd h (by omega)
  | 65, hc =>
    cases hc
    have hj : j < 1 := hj
    match j, hj with
    | 0, _ => exact ⟨_, rfl, rfl⟩
    | j + 1, h => exact absurd h (by omega)
  | 66, hc =>
    cases hc
    have hj : j < 1 := hj
    match j, hj with
    | 0, _ => exact ⟨_, rfl, rfl⟩
    | j + 1, h => exact absurd h (by omega)
  | 67, hc =>
    cases hc
    have hj : j < 1 := hj
    match j, hj with
    | 0, _ => exact ⟨_, rfl, rfl⟩
    | j + 1, h => exact absurd h (by omega)
  | 68, hc =>
    cases hc
    have hj : j < 1 := hj
    match j, hj with
    | 0, _ => exact ⟨_, rfl, rfl⟩
    | j + 1, h => exact absurd h (by omega)
  | 69, hc =>
    cases hc
    have hj : j < 1 := hj
    match j, hj with
    | 0, _ => exact ⟨_, rfl, rfl⟩
    | j + 1, h => exact absurd h (by omega)
  | c + 70, hc => exact absurd (LY_hi hc) (by omega)
set_option maxHeartbeats 4000000 in
set_option maxRecDepth 100000 in
theorem rep_0 (hP : va_P D vwCl (WS cA qF qM a b) H) : Rep D (adS qF qM a b k v) cA S0 H := by
  intro c j kd hc hj
  match c, hc with
  | 0, hc =>
    cases hc
    have hj : j < 1 := hj
    match j, hj with
    | 0, _ => exact hP 44 _ rfl
    | j + 1, h => exact absurd h (by omega)
  | 1, hc =>
    cases hc
    have hj : j < 2 := hj
    match j, hj with
    | 0, _ => exact hP 39 _ rfl
    | 1, _ => exact hP 40 _ rfl
    | j + 2, h => exact absurd h (by omega)
  | 2, hc =>
    cases hc
    have hj : j < 1 := hj
    match j, hj with
    | 0, _ => exact hP 47 _ rfl
    | j + 1, h => exact absurd h (by omega)
  | 3, hc =>
    cases hc
    have hj : j < 1 := hj
    match j, hj with
    | 0, _ => exact hP 46 _ rfl
    | j + 1, h => exact absurd h (by omega)
  | 4, hc =>
    cases hc
    have hj : j < 1 := hj
    match j, hj with
    | 0, _ => exact hP 43 _ rfl
    | j + 1, h => exact absurd h (by omega)
  | 5, hc =>
    cases hc
    have hj : j < 2 := hj
    match j, hj with
    | 0, _ => exact hP 49 _ rfl
    | 1, _ => exact hP 53 _ rfl
    | j + 2, h => exact absurd h (by omega)
  | 6, hc =>
    cases hc
    have hj : j < 1 := hj
    match j, hj with
    | 0, _ => exact hP 38 _ rfl
    | j + 1, h => exact absurd h (by omega)
  | 7, hc =>
    cases hc
    have hj : j < 4 := hj
    match j, hj with
    | 0, _ => exact hP 5 _ rfl
    | 1, _ => exact hP 11 _ rfl
    | 2, _ => exact hP 17 _ rfl
    | 3, _ => exact hP 23 _ rfl
    | j + 4, h => exact absurd h (by omega)
  | 8, hc =>
    cases hc
    have hj : j < 1 := hj
    match j, hj with
    | 0, _ => exact hP 57 _ rfl
    | j + 1, h => exact absurd h (by omega)
  | 9, hc =>
    cases hc
    have hj : j < 1 := hj
    match j, hj with
    | 0, _ => exact hP 2 _ rfl
    | j + 1, h => exact absurd h (by omega)
  | 10, hc =>
    cases hc
    have hj : j < 1 := hj
    match j, hj with
    | 0, _ => exact hP 0 _ rfl
    | j + 1, h => exact absurd h (by omega)
  | 11, hc =>
    cases hc
    have hj : j < 1 := hj
    match j, hj with
    | 0, _ => exact hP 59 _ rfl
    | j + 1, h => exact absurd h (by omega)
  | 12, hc =>
    cases hc
    have hj : j < 1 := hj
    match j, hj with
    | 0, _ => exact hP 45 _ rfl
    | j + 1, h => exact absurd h (by omega)
  | 13, hc =>
    cases hc
    have hj : j < 2 := hj
    match j, hj with
    | 0, _ => exact hP 29 _ rfl
    | 1, _ => exact hP 41 _ rfl
    | j + 2, h => exact absurd h (by omega)
  | 14, hc =>
    cases hc
    have hj : j < 2 := hj
    match j, hj with
    | 0, _ => exact hP 30 _ rfl
    | 1, _ => exact hP 42 _ rfl
    | j + 2, h => exact absurd h (by omega)
  | 15, hc =>
    cases hc
    have hj : j < 1 := hj
    match j, hj with
    | 0, _ => exact hP 48 _ rfl
    | j + 1, h => exact absurd h (by omega)
  | 16, hc => exact absurd (LY_16.symm.trans hc) (by simp)
  | 17, hc => exact absurd (LY_17.symm.trans hc) (by simp)
  | 18, hc =>
    cases hc
    have hj : j < 2 := hj
    match j, hj with
    | 0, _ => exact hP 50 _ rfl
    | 1, _ => exact hP 54 _ rfl
    | j + 2, h => exact absurd h (by omega)
  | 19, hc => exact absurd (LY_19.symm.trans hc) (by simp)
  | 20, hc =>
    cases hc
    have hj : j < 2 := hj
    match j, hj with
    | 0, _ => exact hP 51 _ rfl
    | 1, _ => exact hP 55 _ rfl
    | j + 2, h => exact absurd h (by omega)
  | 21, hc =>
    cases hc
    have hj : j < 2 := hj
    match j, hj with
    | 0, _ => exact hP 52 _ rfl
    | 1, _ => exact hP 56 _ rfl
    | j + 2, h => exact absurd h (by omega)
  | 22, hc =>
    cases hc
    have hj : j < 1 := hj
    match j, hj with
    | 0, _ => exact hP 31 _ rfl
    | j + 1, h => exact absurd h (by omega)
  | 23, hc =>
    cases hc
    have hj : j < 1 := hj
    match j, hj with
    | 0, _ => exact hP 32 _ rfl
    | j + 1, h => exact absurd h (by omega)
  | 24, hc =>
    cases hc
    have hj : j < 1 := hj
    match j, hj with
    | 0, _ => exact hP 33 _ rfl
    | j + 1, h => exact absurd h (by omega)
  | 25, hc =>
    cases hc
    have hj : j < 1 := hj
    match j, hj with
    | 0, _ => exact hP 34 _ rfl
    | j + 1, h => exact absurd h (by omega)
  | 26, hc =>
    cases hc
    have hj : j < 1 := hj
    match j, hj with
    | 0, _ => exact hP 35 _ rfl
    | j + 1, h => exact absurd h (by omega)
  | 27, hc =>
    cases hc
    have hj : j < 1 := hj
    match j, hj with
    | 0, _ => exact hP 36 _ rfl
    | j + 1, h => exact absurd h (by omega)
  | 28, hc =>
    cases hc
    have hj : j < 1 := hj
    match j, hj with
    | 0, _ => exact hP 37 _ rfl
    | j + 1, h => exact absurd h (by omega)
  | 29, hc =>
    cases hc
    have hj : j < 4 := hj
    match j, hj with
    | 0, _ => exact hP 6 _ rfl
    | 1, _ => exact hP 12 _ rfl
    | 2, _ => exact hP 18 _ rfl
    | 3, _ => exact hP 24 _ rfl
    | j + 4, h => exact absurd h (by omega)
  | 30, hc =>
    cases hc
    have hj : j < 4 := hj
    match j, hj with
    | 0, _ => exact hP 7 _ rfl
    | 1, _ => exact hP 13 _ rfl
    | 2, _ => exact hP 19 _ rfl
    | 3, _ => exact hP 25 _ rfl
    | j + 4, h => exact absurd h (by omega)
  | 31, hc =>
    cases hc
    have hj : j < 4 := hj
    match j, hj with
    | 0, _ => exact hP 8 _ rfl
    | 1, _ => exact hP 14 _ rfl
    | 2, _ => exact hP 20 _ rfl
    | 3, _ => exact hP 26 _ rfl
    | j + 4, h => exact absurd h (by omega)
  | 32, hc => exact absurd (LY_32.symm.trans hc) (by simp)
  | 33, hc =>
    cases hc
    have hj : j < 4 := hj
    match j, hj with
    | 0, _ => exact hP 9 _ rfl
    | 1, _ => exact hP 15 _ rfl
    | 2, _ => exact hP 21 _ rfl
    | 3, _ => exact hP 27 _ rfl
    | j + 4, h => exact absurd h (by omega)
  | 34, hc =>
    cases hc
    have hj : j < 4 := hj
    match j, hj with
    | 0, _ => exact hP 10 _ rfl
    | 1, _ => exact hP 16 _ rfl
    | 2, _ => exact hP 22 _ rfl
    | 3, _ => exact hP 28 _ rfl
    | j + 4, h => exact absurd h (by omega)
  | 35, hc => exact absurd (LY_35.symm.trans hc) (by simp)
  | 36, hc =>
    cases hc
    have hj : j < 1 := hj
    match j, hj with
    | 0, _ => 
      have h0 : H[adS qF qM a b k v 36 0]? = some (vp_cell (cA 4) (4, .inr (.inr (.inr (.inr (va_up (va_up (va_up (va_up (fun _ => none) 0 (some (a 6))) 1 (some (a 12))) 2 (some (a 18))) 3 (some (a 24)))))))) := hP 58 _ rfl
      show H[adS qF qM a b k v 36 0]? = some (vp_cell (cA 4) (4, .inr (.inr (.inr (.inr (fun i => some (adS qF qM a b k v 7 i)))))))
      rw [h0, vp_cell_q, vp_cell_q]
      refine congrArg some (arrV_ext (fun i hi => ?_))
      match i, hi with
      | 0, _ => rfl
      | 1, _ => rfl
      | 2, _ => rfl
      | 3, _ => rfl
      | i + 4, h => exact absurd h (by omega)
    | j + 1, h => exact absurd h (by omega)
  | 37, hc =>
    cases hc
    have hj : j < 1 := hj
    match j, hj with
    | 0, _ => exact hP 3 _ rfl
    | j + 1, h => exact absurd h (by omega)
  | 38, hc =>
    cases hc
    have hj : j < 1 := hj
    match j, hj with
    | 0, _ => exact hP 4 _ rfl
    | j + 1, h => exact absurd h (by omega)
  | 39, hc =>
    cases hc
    have hj : j < 1 := hj
    match j, hj with
    | 0, _ => exact hP 1 _ rfl
    | j + 1, h => exact absurd h (by omega)
  | 40, hc =>
    cases hc
    have hj : j < 1 := hj
    match j, hj with
    | 0, _ => exact hP 60 _ rfl
    | j + 1, h => exact absurd h (by omega)
  | 41, hc =>
    cases hc
    have hj : j < 1 := hj
    match j, hj with
    | 0, _ => exact hP 61 _ rfl
    | j + 1, h => exact absurd h (by omega)
  | 42, hc =>
    cases hc
    have hj : j < 1 := hj
    match j, hj with
    | 0, _ => exact hP 62 _ rfl
    | j + 1, h => exact absurd h (by omega)
  | 43, hc =>
    cases hc
    have hj : j < 1 := hj
    match j, hj with
    | 0, _ => exact hP 63 _ rfl
    | j + 1, h => exact absurd h (by omega)
  | 44, hc =>
    cases hc
    have hj : j < 1 := hj
    match j, hj with
    | 0, _ => exact hP 64 _ rfl
    | j + 1, h => exact absurd h (by omega)
  | 45, hc =>
    cases hc
    have hj : j < 1 := hj
    match j, hj with
    | 0, _ => exact hP 65 _ rfl
    | j + 1, h => exact absurd h (by omega)
  | 46, hc =>
    cases hc
    have hj : j < 1 := hj
    match j, hj with
    | 0, _ => exact hP 66 _ rfl
    | j + 1, h => exact absurd h (by omega)
  | 47, hc =>
    cases hc
    have hj : j < 1 := hj
    match j, hj with
    | 0, _ => exact hP 67 _ rfl
    | j + 1, h => exact absurd h (by omega)
  | 48, hc =>
    cases hc
    have hj : j < 1 := hj
    match j, hj with
    | 0, _ => exact hP 68 _ rfl
    | j + 1, h => exact absurd h (by omega)
  | 49, hc =>
    cases hc
    have hj : j < 1 := hj
    match j, hj with
    | 0, _ => exact hP 69 _ rfl
    | j + 1, h => exact absurd h (by omega)
  | 50, hc =>
    cases hc
    have hj : j < 1 := hj
    match j, hj with
    | 0, _ => exact hP 70 _ rfl
    | j + 1, h => exact absurd h (by omega)
  | 51, hc =>
    cases hc
    have hj : j < 1 := hj
    match j, hj with
    | 0, _ => exact hP 71 _ rfl
    | j + 1, h => exact absurd h (by omega)
  | 52, hc =>
    cases hc
    have hj : j < 1 := hj
    match j, hj with
    | 0, _ => exact hP 72 _ rfl
    | j + 1, h => exact absurd h (by omega)
  | 53, hc =>
    cases hc
    have hj : j < 1 := hj
    match j, hj with
    | 0, _ => exact hP 73 _ rfl
    | j + 1, h => exact absurd h (by omega)
  | 54, hc =>
    cases hc
    have hj : j < 1 := hj
    match j, hj with
    | 0, _ => exact hP 74 _ rfl
    | j + 1, h => exact absurd h (by omega)
  | 55, hc =>
    cases hc
    have hj : j < 1 := hj
    match j, hj with
    | 0, _ => exact hP 75 _ rfl
    | j + 1, h => exact absurd h (by omega)
  | 56, hc =>
    cases hc
    have hj : j < 1 := hj
    match j, hj with
    | 0, _ => exact hP 76 _ rfl
    | j + 1, h => exact absurd h (by omega)
  | 57, hc =>
    cases hc
    have hj : j < 1 := hj
    match j, hj with
    | 0, _ => exact hP 77 _ rfl
    | j + 1, h => exact absurd h (by omega)
  | 58, hc =>
    cases hc
    have hj : j < 1 := hj
    match j, hj with
    | 0, _ => exact hP 78 _ rfl
    | j + 1, h => exact absurd h (by omega)
  | 59, hc =>
    cases hc
    have hj : j < 1 := hj
    match j, hj with
    | 0, _ => exact hP 79 _ rfl
    | j + 1, h => exact absurd h (by omega)
  | 60, hc =>
    cases hc
    have hj : j < 1 := hj
    match j, hj with
    | 0, _ => exact hP 80 _ rfl
    | j + 1, h => exact absurd h (by omega)
  | 61, hc =>
    cases hc
    have hj : j < 1 := hj
    match j, hj with
    | 0, _ => exact hP 81 _ rfl
    | j + 1, h => exact absurd h (by omega)
  | 62, hc =>
    cases hc
    have hj : j < 1 := hj
    match j, hj with
    | 0, _ => exact hP 82 _ rfl
    | j + 1, h => exact absurd h (by omega)
  | 63, hc =>
    cases hc
    have hj : j < 1 := hj
    match j, hj with
    | 0, _ => exact hP 83 _ rfl
    | j + 1, h => exact absurd h (by omega)
  | 64, hc =>
    cases hc
    have hj : j < 1 := hj
    match j, hj with
    | 0, _ => exact hP 84 _ rfl
    | j + 1, h => exact absurd h (by omega)
  | 65, hc =>
    cases hc
    have hj : j < 1 := hj
    match j, hj with
    | 0, _ => exact hP 85 _ rfl
    | j + 1, h => exact absurd h (by omega)
  | 66, hc =>
    cases hc
    have hj : j < 1 := hj
    match j, hj with
    | 0, _ => exact hP 86 _ rfl
    | j + 1, h => exact absurd h (by omega)
  | 67, hc =>
    cases hc
    have hj : j < 1 := hj
    match j, hj with
    | 0, _ => exact hP 87 _ rfl
    | j + 1, h => exact absurd h (by omega)
  | 68, hc =>
    cases hc
    have hj : j < 1 := hj
    match j, hj with
    | 0, _ => exact hP 88 _ rfl
    | j + 1, h => exact absurd h (by omega)
  | 69, hc =>
    cases hc
    have hj : j < 1 := hj
    match j, hj with
    | 0, _ => exact hP 89 _ rfl
    | j + 1, h => exact absurd h (by omega)
  | c + 70, hc => exact absurd (LY_hi hc) (by omega)
theorem inj_0 {A : Nat → Prop} (hD : va_D A (WS cA qF qM a b)) : Inj (adS qF qM a b k v) := by
  rintro c j c' j' ⟨⟨kd, hc⟩, hj⟩ ⟨⟨kd', hc'⟩, hj'⟩ e
  obtain ⟨e1, h1, i1⟩ := ws_at (cA := cA) (qF := qF) (qM := qM) (a := a) (b := b) (k := k) (v := v) hc hj
  obtain ⟨e2, h2, i2⟩ := ws_at (cA := cA) (qF := qF) (qM := qM) (a := a) (b := b) (k := k) (v := v) hc' hj'
  have h3 := hD.1 _ _ _ _ h1 h2 e
  rw [h3] at i1
  have h4 := Option.some.inj (i1.symm.trans i2)
  exact ⟨congrArg Prod.fst h4, congrArg Prod.snd h4⟩
theorem fr_0 {A : Nat → Prop} (hD : va_D A (WS cA qF qM a b)) {q : Nat} (h : fr (adS qF qM a b k v) q) : A q := by
  obtain ⟨c, j, ⟨⟨kd, hc⟩, hj⟩, rfl⟩ := h
  obtain ⟨e1, h1, -⟩ := ws_at (cA := cA) (qF := qF) (qM := qM) (a := a) (b := b) (k := k) (v := v) hc hj
  exact hD.2 _ _ h1
end
def d_0 : DB := (0, fun _ => nI 0, fun _ => 0, fun _ _ => nI 0, fun _ _ => nI 0, fun _ => 0, fun _ _ => nI 0, fun _ _ => false)
theorem eN_0 : (fun _ : Nat => lN 0) = eN (fun _ => nI 0) (fun _ => false) := by
  funext i
  show lN 0 = (nI 0).toInt64
  decide
theorem linv_0 : LInv S0 := by
  refine ⟨d_0, 0, 1, 0, fun _ => 0, 0, 0, fun _ _ => nI 0, fun _ _ => false, ?_, ?_, ?_, rfl, ?_, ?_, ?_, ?_⟩
  · refine ⟨⟨⟨rfl, Nat.zero_le _⟩, fun t _ => ⟨⟨rfl, rfl, rfl⟩, ⟨Nat.zero_le _, Nat.zero_le _⟩, rfl, rfl, eN_0, eN_0⟩⟩, fun t _ => ⟨rfl, rfl⟩, ⟨rfl, by show ¬ lN 0 < lN 0; decide, fun _ => nI 0, fun _ => false, eN_0⟩, ⟨rfl, rfl, by decide, by decide, by decide⟩, 0, by decide, rfl⟩
  · exact ⟨fun t u h => absurd h (Nat.not_lt_zero _), fun t h => absurd h (Nat.not_lt_zero _), fun t h => absurd h (Nat.not_lt_zero _)⟩
  · exact ⟨rfl, Nat.zero_le _, fun t h => absurd h (Nat.not_lt_zero _)⟩
  · exact ⟨Nat.zero_le _, fun i h => absurd h (Nat.not_lt_zero _)⟩
  · exact ⟨rfl, Nat.zero_le _, fun i h => absurd h (Nat.not_lt_zero _)⟩
  · exact ⟨0, 1, fun _ => 0, ⟨by decide, by decide, by decide, rfl, rfl⟩, ⟨rfl, rfl, by decide, by decide⟩, fun i h => absurd h (Nat.not_lt_zero _), fun i h => absurd h (Nat.not_lt_zero _)⟩
  · exact ⟨rfl, rfl, fun i h => absurd h (Nat.not_lt_zero _)⟩
