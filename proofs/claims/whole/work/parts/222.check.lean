-- deps: 218 221
-- checking a draft's words
def cd (S : ST) (g1 g2 : Nat → Int32) (m : Nat) : ST := si (sa (sa S 13 0 g1) 14 0 g2) 0 5 0 (nI m)
theorem cd_gi1 (S : ST) (g1 g2 : Nat → Int32) (m : Nat) (k j : Nat) : gi (cd S g1 g2 m) 1 k j = gi S 1 k j := by simp only [cd, gi_si, gi_sl, gi_sz, gi_sr, gi_sa, gi_sb, gi_sy, gl_si, gl_sl, gl_sz, gl_sr, gl_sa, gl_sb, gl_sy, gz_si, gz_sl, gz_sz, gz_sr, gz_sa, gz_sb, gz_sy, gr_si, gr_sl, gr_sz, gr_sr, gr_sa, gr_sb, gr_sy, ga_si, ga_sl, ga_sz, ga_sr, ga_sa, ga_sb, ga_sy, gb_si, gb_sl, gb_sz, gb_sr, gb_sa, gb_sb, gb_sy, gy_si, gy_sl, gy_sz, gy_sr, gy_sa, gy_sb, gy_sy, reduceIte, Nat.reduceEqDiff, and_true, true_and, and_self, false_and, and_false]
theorem cd_gi6 (S : ST) (g1 g2 : Nat → Int32) (m : Nat) (k j : Nat) : gi (cd S g1 g2 m) 6 k j = gi S 6 k j := by simp only [cd, gi_si, gi_sl, gi_sz, gi_sr, gi_sa, gi_sb, gi_sy, gl_si, gl_sl, gl_sz, gl_sr, gl_sa, gl_sb, gl_sy, gz_si, gz_sl, gz_sz, gz_sr, gz_sa, gz_sb, gz_sy, gr_si, gr_sl, gr_sz, gr_sr, gr_sa, gr_sb, gr_sy, ga_si, ga_sl, ga_sz, ga_sr, ga_sa, ga_sb, ga_sy, gb_si, gb_sl, gb_sz, gb_sr, gb_sa, gb_sb, gb_sy, gy_si, gy_sl, gy_sz, gy_sr, gy_sa, gy_sb, gy_sy, reduceIte, Nat.reduceEqDiff, and_true, true_and, and_self, false_and, and_false]
theorem cd_gi7 (S : ST) (g1 g2 : Nat → Int32) (m : Nat) (k j : Nat) : gi (cd S g1 g2 m) 7 k j = gi S 7 k j := by simp only [cd, gi_si, gi_sl, gi_sz, gi_sr, gi_sa, gi_sb, gi_sy, gl_si, gl_sl, gl_sz, gl_sr, gl_sa, gl_sb, gl_sy, gz_si, gz_sl, gz_sz, gz_sr, gz_sa, gz_sb, gz_sy, gr_si, gr_sl, gr_sz, gr_sr, gr_sa, gr_sb, gr_sy, ga_si, ga_sl, ga_sz, ga_sr, ga_sa, ga_sb, ga_sy, gb_si, gb_sl, gb_sz, gb_sr, gb_sa, gb_sb, gb_sy, gy_si, gy_sl, gy_sz, gy_sr, gy_sa, gy_sb, gy_sy, reduceIte, Nat.reduceEqDiff, and_true, true_and, and_self, false_and, and_false]
theorem cd_gi8 (S : ST) (g1 g2 : Nat → Int32) (m : Nat) (k j : Nat) : gi (cd S g1 g2 m) 8 k j = gi S 8 k j := by simp only [cd, gi_si, gi_sl, gi_sz, gi_sr, gi_sa, gi_sb, gi_sy, gl_si, gl_sl, gl_sz, gl_sr, gl_sa, gl_sb, gl_sy, gz_si, gz_sl, gz_sz, gz_sr, gz_sa, gz_sb, gz_sy, gr_si, gr_sl, gr_sz, gr_sr, gr_sa, gr_sb, gr_sy, ga_si, ga_sl, ga_sz, ga_sr, ga_sa, ga_sb, ga_sy, gb_si, gb_sl, gb_sz, gb_sr, gb_sa, gb_sb, gb_sy, gy_si, gy_sl, gy_sz, gy_sr, gy_sa, gy_sb, gy_sy, reduceIte, Nat.reduceEqDiff, and_true, true_and, and_self, false_and, and_false]
theorem cd_gi9 (S : ST) (g1 g2 : Nat → Int32) (m : Nat) (k j : Nat) : gi (cd S g1 g2 m) 9 k j = gi S 9 k j := by simp only [cd, gi_si, gi_sl, gi_sz, gi_sr, gi_sa, gi_sb, gi_sy, gl_si, gl_sl, gl_sz, gl_sr, gl_sa, gl_sb, gl_sy, gz_si, gz_sl, gz_sz, gz_sr, gz_sa, gz_sb, gz_sy, gr_si, gr_sl, gr_sz, gr_sr, gr_sa, gr_sb, gr_sy, ga_si, ga_sl, ga_sz, ga_sr, ga_sa, ga_sb, ga_sy, gb_si, gb_sl, gb_sz, gb_sr, gb_sa, gb_sb, gb_sy, gy_si, gy_sl, gy_sz, gy_sr, gy_sa, gy_sb, gy_sy, reduceIte, Nat.reduceEqDiff, and_true, true_and, and_self, false_and, and_false]
theorem cd_gz6 (S : ST) (g1 g2 : Nat → Int32) (m : Nat) (k j : Nat) : gz (cd S g1 g2 m) 6 k j = gz S 6 k j := by simp only [cd, gi_si, gi_sl, gi_sz, gi_sr, gi_sa, gi_sb, gi_sy, gl_si, gl_sl, gl_sz, gl_sr, gl_sa, gl_sb, gl_sy, gz_si, gz_sl, gz_sz, gz_sr, gz_sa, gz_sb, gz_sy, gr_si, gr_sl, gr_sz, gr_sr, gr_sa, gr_sb, gr_sy, ga_si, ga_sl, ga_sz, ga_sr, ga_sa, ga_sb, ga_sy, gb_si, gb_sl, gb_sz, gb_sr, gb_sa, gb_sb, gb_sy, gy_si, gy_sl, gy_sz, gy_sr, gy_sa, gy_sb, gy_sy, reduceIte, Nat.reduceEqDiff, and_true, true_and, and_self, false_and, and_false]
theorem cd_ga22 (S : ST) (g1 g2 : Nat → Int32) (m : Nat) (j : Nat) : ga (cd S g1 g2 m) 22 j = ga S 22 j := by simp only [cd, gi_si, gi_sl, gi_sz, gi_sr, gi_sa, gi_sb, gi_sy, gl_si, gl_sl, gl_sz, gl_sr, gl_sa, gl_sb, gl_sy, gz_si, gz_sl, gz_sz, gz_sr, gz_sa, gz_sb, gz_sy, gr_si, gr_sl, gr_sz, gr_sr, gr_sa, gr_sb, gr_sy, ga_si, ga_sl, ga_sz, ga_sr, ga_sa, ga_sb, ga_sy, gb_si, gb_sl, gb_sz, gb_sr, gb_sa, gb_sb, gb_sy, gy_si, gy_sl, gy_sz, gy_sr, gy_sa, gy_sb, gy_sy, reduceIte, Nat.reduceEqDiff, and_true, true_and, and_self, false_and, and_false]
theorem cd_ga23 (S : ST) (g1 g2 : Nat → Int32) (m : Nat) (j : Nat) : ga (cd S g1 g2 m) 23 j = ga S 23 j := by simp only [cd, gi_si, gi_sl, gi_sz, gi_sr, gi_sa, gi_sb, gi_sy, gl_si, gl_sl, gl_sz, gl_sr, gl_sa, gl_sb, gl_sy, gz_si, gz_sl, gz_sz, gz_sr, gz_sa, gz_sb, gz_sy, gr_si, gr_sl, gr_sz, gr_sr, gr_sa, gr_sb, gr_sy, ga_si, ga_sl, ga_sz, ga_sr, ga_sa, ga_sb, ga_sy, gb_si, gb_sl, gb_sz, gb_sr, gb_sa, gb_sb, gb_sy, gy_si, gy_sl, gy_sz, gy_sr, gy_sa, gy_sb, gy_sy, reduceIte, Nat.reduceEqDiff, and_true, true_and, and_self, false_and, and_false]
theorem cd_ga24 (S : ST) (g1 g2 : Nat → Int32) (m : Nat) (j : Nat) : ga (cd S g1 g2 m) 24 j = ga S 24 j := by simp only [cd, gi_si, gi_sl, gi_sz, gi_sr, gi_sa, gi_sb, gi_sy, gl_si, gl_sl, gl_sz, gl_sr, gl_sa, gl_sb, gl_sy, gz_si, gz_sl, gz_sz, gz_sr, gz_sa, gz_sb, gz_sy, gr_si, gr_sl, gr_sz, gr_sr, gr_sa, gr_sb, gr_sy, ga_si, ga_sl, ga_sz, ga_sr, ga_sa, ga_sb, ga_sy, gb_si, gb_sl, gb_sz, gb_sr, gb_sa, gb_sb, gb_sy, gy_si, gy_sl, gy_sz, gy_sr, gy_sa, gy_sb, gy_sy, reduceIte, Nat.reduceEqDiff, and_true, true_and, and_self, false_and, and_false]
theorem cd_ga25 (S : ST) (g1 g2 : Nat → Int32) (m : Nat) (j : Nat) : ga (cd S g1 g2 m) 25 j = ga S 25 j := by simp only [cd, gi_si, gi_sl, gi_sz, gi_sr, gi_sa, gi_sb, gi_sy, gl_si, gl_sl, gl_sz, gl_sr, gl_sa, gl_sb, gl_sy, gz_si, gz_sl, gz_sz, gz_sr, gz_sa, gz_sb, gz_sy, gr_si, gr_sl, gr_sz, gr_sr, gr_sa, gr_sb, gr_sy, ga_si, ga_sl, ga_sz, ga_sr, ga_sa, ga_sb, ga_sy, gb_si, gb_sl, gb_sz, gb_sr, gb_sa, gb_sb, gb_sy, gy_si, gy_sl, gy_sz, gy_sr, gy_sa, gy_sb, gy_sy, reduceIte, Nat.reduceEqDiff, and_true, true_and, and_self, false_and, and_false]
theorem cd_ga26 (S : ST) (g1 g2 : Nat → Int32) (m : Nat) (j : Nat) : ga (cd S g1 g2 m) 26 j = ga S 26 j := by simp only [cd, gi_si, gi_sl, gi_sz, gi_sr, gi_sa, gi_sb, gi_sy, gl_si, gl_sl, gl_sz, gl_sr, gl_sa, gl_sb, gl_sy, gz_si, gz_sl, gz_sz, gz_sr, gz_sa, gz_sb, gz_sy, gr_si, gr_sl, gr_sz, gr_sr, gr_sa, gr_sb, gr_sy, ga_si, ga_sl, ga_sz, ga_sr, ga_sa, ga_sb, ga_sy, gb_si, gb_sl, gb_sz, gb_sr, gb_sa, gb_sb, gb_sy, gy_si, gy_sl, gy_sz, gy_sr, gy_sa, gy_sb, gy_sy, reduceIte, Nat.reduceEqDiff, and_true, true_and, and_self, false_and, and_false]
theorem cd_ga27 (S : ST) (g1 g2 : Nat → Int32) (m : Nat) (j : Nat) : ga (cd S g1 g2 m) 27 j = ga S 27 j := by simp only [cd, gi_si, gi_sl, gi_sz, gi_sr, gi_sa, gi_sb, gi_sy, gl_si, gl_sl, gl_sz, gl_sr, gl_sa, gl_sb, gl_sy, gz_si, gz_sl, gz_sz, gz_sr, gz_sa, gz_sb, gz_sy, gr_si, gr_sl, gr_sz, gr_sr, gr_sa, gr_sb, gr_sy, ga_si, ga_sl, ga_sz, ga_sr, ga_sa, ga_sb, ga_sy, gb_si, gb_sl, gb_sz, gb_sr, gb_sa, gb_sb, gb_sy, gy_si, gy_sl, gy_sz, gy_sr, gy_sa, gy_sb, gy_sy, reduceIte, Nat.reduceEqDiff, and_true, true_and, and_self, false_and, and_false]
theorem cd_ga28 (S : ST) (g1 g2 : Nat → Int32) (m : Nat) (j : Nat) : ga (cd S g1 g2 m) 28 j = ga S 28 j := by simp only [cd, gi_si, gi_sl, gi_sz, gi_sr, gi_sa, gi_sb, gi_sy, gl_si, gl_sl, gl_sz, gl_sr, gl_sa, gl_sb, gl_sy, gz_si, gz_sl, gz_sz, gz_sr, gz_sa, gz_sb, gz_sy, gr_si, gr_sl, gr_sz, gr_sr, gr_sa, gr_sb, gr_sy, ga_si, ga_sl, ga_sz, ga_sr, ga_sa, ga_sb, ga_sy, gb_si, gb_sl, gb_sz, gb_sr, gb_sa, gb_sb, gb_sy, gy_si, gy_sl, gy_sz, gy_sr, gy_sa, gy_sb, gy_sy, reduceIte, Nat.reduceEqDiff, and_true, true_and, and_self, false_and, and_false]
theorem cd_ga29 (S : ST) (g1 g2 : Nat → Int32) (m : Nat) (j : Nat) : ga (cd S g1 g2 m) 29 j = ga S 29 j := by simp only [cd, gi_si, gi_sl, gi_sz, gi_sr, gi_sa, gi_sb, gi_sy, gl_si, gl_sl, gl_sz, gl_sr, gl_sa, gl_sb, gl_sy, gz_si, gz_sl, gz_sz, gz_sr, gz_sa, gz_sb, gz_sy, gr_si, gr_sl, gr_sz, gr_sr, gr_sa, gr_sb, gr_sy, ga_si, ga_sl, ga_sz, ga_sr, ga_sa, ga_sb, ga_sy, gb_si, gb_sl, gb_sz, gb_sr, gb_sa, gb_sb, gb_sy, gy_si, gy_sl, gy_sz, gy_sr, gy_sa, gy_sb, gy_sy, reduceIte, Nat.reduceEqDiff, and_true, true_and, and_self, false_and, and_false]
theorem cd_ga30 (S : ST) (g1 g2 : Nat → Int32) (m : Nat) (j : Nat) : ga (cd S g1 g2 m) 30 j = ga S 30 j := by simp only [cd, gi_si, gi_sl, gi_sz, gi_sr, gi_sa, gi_sb, gi_sy, gl_si, gl_sl, gl_sz, gl_sr, gl_sa, gl_sb, gl_sy, gz_si, gz_sl, gz_sz, gz_sr, gz_sa, gz_sb, gz_sy, gr_si, gr_sl, gr_sz, gr_sr, gr_sa, gr_sb, gr_sy, ga_si, ga_sl, ga_sz, ga_sr, ga_sa, ga_sb, ga_sy, gb_si, gb_sl, gb_sz, gb_sr, gb_sa, gb_sb, gb_sy, gy_si, gy_sl, gy_sz, gy_sr, gy_sa, gy_sb, gy_sy, reduceIte, Nat.reduceEqDiff, and_true, true_and, and_self, false_and, and_false]
theorem cd_ga37 (S : ST) (g1 g2 : Nat → Int32) (m : Nat) (j : Nat) : ga (cd S g1 g2 m) 37 j = ga S 37 j := by simp only [cd, gi_si, gi_sl, gi_sz, gi_sr, gi_sa, gi_sb, gi_sy, gl_si, gl_sl, gl_sz, gl_sr, gl_sa, gl_sb, gl_sy, gz_si, gz_sl, gz_sz, gz_sr, gz_sa, gz_sb, gz_sy, gr_si, gr_sl, gr_sz, gr_sr, gr_sa, gr_sb, gr_sy, ga_si, ga_sl, ga_sz, ga_sr, ga_sa, ga_sb, ga_sy, gb_si, gb_sl, gb_sz, gb_sr, gb_sa, gb_sb, gb_sy, gy_si, gy_sl, gy_sz, gy_sr, gy_sa, gy_sb, gy_sy, reduceIte, Nat.reduceEqDiff, and_true, true_and, and_self, false_and, and_false]
theorem cd_ga38 (S : ST) (g1 g2 : Nat → Int32) (m : Nat) (j : Nat) : ga (cd S g1 g2 m) 38 j = ga S 38 j := by simp only [cd, gi_si, gi_sl, gi_sz, gi_sr, gi_sa, gi_sb, gi_sy, gl_si, gl_sl, gl_sz, gl_sr, gl_sa, gl_sb, gl_sy, gz_si, gz_sl, gz_sz, gz_sr, gz_sa, gz_sb, gz_sy, gr_si, gr_sl, gr_sz, gr_sr, gr_sa, gr_sb, gr_sy, ga_si, ga_sl, ga_sz, ga_sr, ga_sa, ga_sb, ga_sy, gb_si, gb_sl, gb_sz, gb_sr, gb_sa, gb_sb, gb_sy, gy_si, gy_sl, gy_sz, gy_sr, gy_sa, gy_sb, gy_sy, reduceIte, Nat.reduceEqDiff, and_true, true_and, and_self, false_and, and_false]
theorem cd_gb31 (S : ST) (g1 g2 : Nat → Int32) (m : Nat) (j : Nat) : gb (cd S g1 g2 m) 31 j = gb S 31 j := by simp only [cd, gi_si, gi_sl, gi_sz, gi_sr, gi_sa, gi_sb, gi_sy, gl_si, gl_sl, gl_sz, gl_sr, gl_sa, gl_sb, gl_sy, gz_si, gz_sl, gz_sz, gz_sr, gz_sa, gz_sb, gz_sy, gr_si, gr_sl, gr_sz, gr_sr, gr_sa, gr_sb, gr_sy, ga_si, ga_sl, ga_sz, ga_sr, ga_sa, ga_sb, ga_sy, gb_si, gb_sl, gb_sz, gb_sr, gb_sa, gb_sb, gb_sy, gy_si, gy_sl, gy_sz, gy_sr, gy_sa, gy_sb, gy_sy, reduceIte, Nat.reduceEqDiff, and_true, true_and, and_self, false_and, and_false]
theorem ck_gi1 (S : ST) (g : Nat → Int32) (n : Nat) (k j : Nat) : gi (ck S g n) 1 k j = gi S 1 k j := by simp only [ck, gi_si, gi_sl, gi_sz, gi_sr, gi_sa, gi_sb, gi_sy, gl_si, gl_sl, gl_sz, gl_sr, gl_sa, gl_sb, gl_sy, gz_si, gz_sl, gz_sz, gz_sr, gz_sa, gz_sb, gz_sy, gr_si, gr_sl, gr_sz, gr_sr, gr_sa, gr_sb, gr_sy, ga_si, ga_sl, ga_sz, ga_sr, ga_sa, ga_sb, ga_sy, gb_si, gb_sl, gb_sz, gb_sr, gb_sa, gb_sb, gb_sy, gy_si, gy_sl, gy_sz, gy_sr, gy_sa, gy_sb, gy_sy, reduceIte, Nat.reduceEqDiff, and_true, true_and, and_self, false_and, and_false]
theorem ck_gi6 (S : ST) (g : Nat → Int32) (n : Nat) (k j : Nat) : gi (ck S g n) 6 k j = gi S 6 k j := by simp only [ck, gi_si, gi_sl, gi_sz, gi_sr, gi_sa, gi_sb, gi_sy, gl_si, gl_sl, gl_sz, gl_sr, gl_sa, gl_sb, gl_sy, gz_si, gz_sl, gz_sz, gz_sr, gz_sa, gz_sb, gz_sy, gr_si, gr_sl, gr_sz, gr_sr, gr_sa, gr_sb, gr_sy, ga_si, ga_sl, ga_sz, ga_sr, ga_sa, ga_sb, ga_sy, gb_si, gb_sl, gb_sz, gb_sr, gb_sa, gb_sb, gb_sy, gy_si, gy_sl, gy_sz, gy_sr, gy_sa, gy_sb, gy_sy, reduceIte, Nat.reduceEqDiff, and_true, true_and, and_self, false_and, and_false]
theorem ck_gi7 (S : ST) (g : Nat → Int32) (n : Nat) (k j : Nat) : gi (ck S g n) 7 k j = gi S 7 k j := by simp only [ck, gi_si, gi_sl, gi_sz, gi_sr, gi_sa, gi_sb, gi_sy, gl_si, gl_sl, gl_sz, gl_sr, gl_sa, gl_sb, gl_sy, gz_si, gz_sl, gz_sz, gz_sr, gz_sa, gz_sb, gz_sy, gr_si, gr_sl, gr_sz, gr_sr, gr_sa, gr_sb, gr_sy, ga_si, ga_sl, ga_sz, ga_sr, ga_sa, ga_sb, ga_sy, gb_si, gb_sl, gb_sz, gb_sr, gb_sa, gb_sb, gb_sy, gy_si, gy_sl, gy_sz, gy_sr, gy_sa, gy_sb, gy_sy, reduceIte, Nat.reduceEqDiff, and_true, true_and, and_self, false_and, and_false]
theorem ck_gi8 (S : ST) (g : Nat → Int32) (n : Nat) (k j : Nat) : gi (ck S g n) 8 k j = gi S 8 k j := by simp only [ck, gi_si, gi_sl, gi_sz, gi_sr, gi_sa, gi_sb, gi_sy, gl_si, gl_sl, gl_sz, gl_sr, gl_sa, gl_sb, gl_sy, gz_si, gz_sl, gz_sz, gz_sr, gz_sa, gz_sb, gz_sy, gr_si, gr_sl, gr_sz, gr_sr, gr_sa, gr_sb, gr_sy, ga_si, ga_sl, ga_sz, ga_sr, ga_sa, ga_sb, ga_sy, gb_si, gb_sl, gb_sz, gb_sr, gb_sa, gb_sb, gb_sy, gy_si, gy_sl, gy_sz, gy_sr, gy_sa, gy_sb, gy_sy, reduceIte, Nat.reduceEqDiff, and_true, true_and, and_self, false_and, and_false]
theorem ck_gi9 (S : ST) (g : Nat → Int32) (n : Nat) (k j : Nat) : gi (ck S g n) 9 k j = gi S 9 k j := by simp only [ck, gi_si, gi_sl, gi_sz, gi_sr, gi_sa, gi_sb, gi_sy, gl_si, gl_sl, gl_sz, gl_sr, gl_sa, gl_sb, gl_sy, gz_si, gz_sl, gz_sz, gz_sr, gz_sa, gz_sb, gz_sy, gr_si, gr_sl, gr_sz, gr_sr, gr_sa, gr_sb, gr_sy, ga_si, ga_sl, ga_sz, ga_sr, ga_sa, ga_sb, ga_sy, gb_si, gb_sl, gb_sz, gb_sr, gb_sa, gb_sb, gb_sy, gy_si, gy_sl, gy_sz, gy_sr, gy_sa, gy_sb, gy_sy, reduceIte, Nat.reduceEqDiff, and_true, true_and, and_self, false_and, and_false]
theorem ck_gz6 (S : ST) (g : Nat → Int32) (n : Nat) (k j : Nat) : gz (ck S g n) 6 k j = gz S 6 k j := by simp only [ck, gi_si, gi_sl, gi_sz, gi_sr, gi_sa, gi_sb, gi_sy, gl_si, gl_sl, gl_sz, gl_sr, gl_sa, gl_sb, gl_sy, gz_si, gz_sl, gz_sz, gz_sr, gz_sa, gz_sb, gz_sy, gr_si, gr_sl, gr_sz, gr_sr, gr_sa, gr_sb, gr_sy, ga_si, ga_sl, ga_sz, ga_sr, ga_sa, ga_sb, ga_sy, gb_si, gb_sl, gb_sz, gb_sr, gb_sa, gb_sb, gb_sy, gy_si, gy_sl, gy_sz, gy_sr, gy_sa, gy_sb, gy_sy, reduceIte, Nat.reduceEqDiff, and_true, true_and, and_self, false_and, and_false]
theorem ck_ga13 (S : ST) (g : Nat → Int32) (n : Nat) (j : Nat) : ga (ck S g n) 13 j = ga S 13 j := by simp only [ck, gi_si, gi_sl, gi_sz, gi_sr, gi_sa, gi_sb, gi_sy, gl_si, gl_sl, gl_sz, gl_sr, gl_sa, gl_sb, gl_sy, gz_si, gz_sl, gz_sz, gz_sr, gz_sa, gz_sb, gz_sy, gr_si, gr_sl, gr_sz, gr_sr, gr_sa, gr_sb, gr_sy, ga_si, ga_sl, ga_sz, ga_sr, ga_sa, ga_sb, ga_sy, gb_si, gb_sl, gb_sz, gb_sr, gb_sa, gb_sb, gb_sy, gy_si, gy_sl, gy_sz, gy_sr, gy_sa, gy_sb, gy_sy, reduceIte, Nat.reduceEqDiff, and_true, true_and, and_self, false_and, and_false]
theorem ck_ga14 (S : ST) (g : Nat → Int32) (n : Nat) (j : Nat) : ga (ck S g n) 14 j = ga S 14 j := by simp only [ck, gi_si, gi_sl, gi_sz, gi_sr, gi_sa, gi_sb, gi_sy, gl_si, gl_sl, gl_sz, gl_sr, gl_sa, gl_sb, gl_sy, gz_si, gz_sl, gz_sz, gz_sr, gz_sa, gz_sb, gz_sy, gr_si, gr_sl, gr_sz, gr_sr, gr_sa, gr_sb, gr_sy, ga_si, ga_sl, ga_sz, ga_sr, ga_sa, ga_sb, ga_sy, gb_si, gb_sl, gb_sz, gb_sr, gb_sa, gb_sb, gb_sy, gy_si, gy_sl, gy_sz, gy_sr, gy_sa, gy_sb, gy_sy, reduceIte, Nat.reduceEqDiff, and_true, true_and, and_self, false_and, and_false]
theorem ck_ga22 (S : ST) (g : Nat → Int32) (n : Nat) (j : Nat) : ga (ck S g n) 22 j = ga S 22 j := by simp only [ck, gi_si, gi_sl, gi_sz, gi_sr, gi_sa, gi_sb, gi_sy, gl_si, gl_sl, gl_sz, gl_sr, gl_sa, gl_sb, gl_sy, gz_si, gz_sl, gz_sz, gz_sr, gz_sa, gz_sb, gz_sy, gr_si, gr_sl, gr_sz, gr_sr, gr_sa, gr_sb, gr_sy, ga_si, ga_sl, ga_sz, ga_sr, ga_sa, ga_sb, ga_sy, gb_si, gb_sl, gb_sz, gb_sr, gb_sa, gb_sb, gb_sy, gy_si, gy_sl, gy_sz, gy_sr, gy_sa, gy_sb, gy_sy, reduceIte, Nat.reduceEqDiff, and_true, true_and, and_self, false_and, and_false]
theorem ck_ga23 (S : ST) (g : Nat → Int32) (n : Nat) (j : Nat) : ga (ck S g n) 23 j = ga S 23 j := by simp only [ck, gi_si, gi_sl, gi_sz, gi_sr, gi_sa, gi_sb, gi_sy, gl_si, gl_sl, gl_sz, gl_sr, gl_sa, gl_sb, gl_sy, gz_si, gz_sl, gz_sz, gz_sr, gz_sa, gz_sb, gz_sy, gr_si, gr_sl, gr_sz, gr_sr, gr_sa, gr_sb, gr_sy, ga_si, ga_sl, ga_sz, ga_sr, ga_sa, ga_sb, ga_sy, gb_si, gb_sl, gb_sz, gb_sr, gb_sa, gb_sb, gb_sy, gy_si, gy_sl, gy_sz, gy_sr, gy_sa, gy_sb, gy_sy, reduceIte, Nat.reduceEqDiff, and_true, true_and, and_self, false_and, and_false]
theorem ck_ga24 (S : ST) (g : Nat → Int32) (n : Nat) (j : Nat) : ga (ck S g n) 24 j = ga S 24 j := by simp only [ck, gi_si, gi_sl, gi_sz, gi_sr, gi_sa, gi_sb, gi_sy, gl_si, gl_sl, gl_sz, gl_sr, gl_sa, gl_sb, gl_sy, gz_si, gz_sl, gz_sz, gz_sr, gz_sa, gz_sb, gz_sy, gr_si, gr_sl, gr_sz, gr_sr, gr_sa, gr_sb, gr_sy, ga_si, ga_sl, ga_sz, ga_sr, ga_sa, ga_sb, ga_sy, gb_si, gb_sl, gb_sz, gb_sr, gb_sa, gb_sb, gb_sy, gy_si, gy_sl, gy_sz, gy_sr, gy_sa, gy_sb, gy_sy, reduceIte, Nat.reduceEqDiff, and_true, true_and, and_self, false_and, and_false]
theorem ck_ga25 (S : ST) (g : Nat → Int32) (n : Nat) (j : Nat) : ga (ck S g n) 25 j = ga S 25 j := by simp only [ck, gi_si, gi_sl, gi_sz, gi_sr, gi_sa, gi_sb, gi_sy, gl_si, gl_sl, gl_sz, gl_sr, gl_sa, gl_sb, gl_sy, gz_si, gz_sl, gz_sz, gz_sr, gz_sa, gz_sb, gz_sy, gr_si, gr_sl, gr_sz, gr_sr, gr_sa, gr_sb, gr_sy, ga_si, ga_sl, ga_sz, ga_sr, ga_sa, ga_sb, ga_sy, gb_si, gb_sl, gb_sz, gb_sr, gb_sa, gb_sb, gb_sy, gy_si, gy_sl, gy_sz, gy_sr, gy_sa, gy_sb, gy_sy, reduceIte, Nat.reduceEqDiff, and_true, true_and, and_self, false_and, and_false]
theorem ck_ga26 (S : ST) (g : Nat → Int32) (n : Nat) (j : Nat) : ga (ck S g n) 26 j = ga S 26 j := by simp only [ck, gi_si, gi_sl, gi_sz, gi_sr, gi_sa, gi_sb, gi_sy, gl_si, gl_sl, gl_sz, gl_sr, gl_sa, gl_sb, gl_sy, gz_si, gz_sl, gz_sz, gz_sr, gz_sa, gz_sb, gz_sy, gr_si, gr_sl, gr_sz, gr_sr, gr_sa, gr_sb, gr_sy, ga_si, ga_sl, ga_sz, ga_sr, ga_sa, ga_sb, ga_sy, gb_si, gb_sl, gb_sz, gb_sr, gb_sa, gb_sb, gb_sy, gy_si, gy_sl, gy_sz, gy_sr, gy_sa, gy_sb, gy_sy, reduceIte, Nat.reduceEqDiff, and_true, true_and, and_self, false_and, and_false]
theorem ck_ga27 (S : ST) (g : Nat → Int32) (n : Nat) (j : Nat) : ga (ck S g n) 27 j = ga S 27 j := by simp only [ck, gi_si, gi_sl, gi_sz, gi_sr, gi_sa, gi_sb, gi_sy, gl_si, gl_sl, gl_sz, gl_sr, gl_sa, gl_sb, gl_sy, gz_si, gz_sl, gz_sz, gz_sr, gz_sa, gz_sb, gz_sy, gr_si, gr_sl, gr_sz, gr_sr, gr_sa, gr_sb, gr_sy, ga_si, ga_sl, ga_sz, ga_sr, ga_sa, ga_sb, ga_sy, gb_si, gb_sl, gb_sz, gb_sr, gb_sa, gb_sb, gb_sy, gy_si, gy_sl, gy_sz, gy_sr, gy_sa, gy_sb, gy_sy, reduceIte, Nat.reduceEqDiff, and_true, true_and, and_self, false_and, and_false]
theorem ck_ga28 (S : ST) (g : Nat → Int32) (n : Nat) (j : Nat) : ga (ck S g n) 28 j = ga S 28 j := by simp only [ck, gi_si, gi_sl, gi_sz, gi_sr, gi_sa, gi_sb, gi_sy, gl_si, gl_sl, gl_sz, gl_sr, gl_sa, gl_sb, gl_sy, gz_si, gz_sl, gz_sz, gz_sr, gz_sa, gz_sb, gz_sy, gr_si, gr_sl, gr_sz, gr_sr, gr_sa, gr_sb, gr_sy, ga_si, ga_sl, ga_sz, ga_sr, ga_sa, ga_sb, ga_sy, gb_si, gb_sl, gb_sz, gb_sr, gb_sa, gb_sb, gb_sy, gy_si, gy_sl, gy_sz, gy_sr, gy_sa, gy_sb, gy_sy, reduceIte, Nat.reduceEqDiff, and_true, true_and, and_self, false_and, and_false]
theorem ck_ga29 (S : ST) (g : Nat → Int32) (n : Nat) (j : Nat) : ga (ck S g n) 29 j = ga S 29 j := by simp only [ck, gi_si, gi_sl, gi_sz, gi_sr, gi_sa, gi_sb, gi_sy, gl_si, gl_sl, gl_sz, gl_sr, gl_sa, gl_sb, gl_sy, gz_si, gz_sl, gz_sz, gz_sr, gz_sa, gz_sb, gz_sy, gr_si, gr_sl, gr_sz, gr_sr, gr_sa, gr_sb, gr_sy, ga_si, ga_sl, ga_sz, ga_sr, ga_sa, ga_sb, ga_sy, gb_si, gb_sl, gb_sz, gb_sr, gb_sa, gb_sb, gb_sy, gy_si, gy_sl, gy_sz, gy_sr, gy_sa, gy_sb, gy_sy, reduceIte, Nat.reduceEqDiff, and_true, true_and, and_self, false_and, and_false]
theorem ck_ga30 (S : ST) (g : Nat → Int32) (n : Nat) (j : Nat) : ga (ck S g n) 30 j = ga S 30 j := by simp only [ck, gi_si, gi_sl, gi_sz, gi_sr, gi_sa, gi_sb, gi_sy, gl_si, gl_sl, gl_sz, gl_sr, gl_sa, gl_sb, gl_sy, gz_si, gz_sl, gz_sz, gz_sr, gz_sa, gz_sb, gz_sy, gr_si, gr_sl, gr_sz, gr_sr, gr_sa, gr_sb, gr_sy, ga_si, ga_sl, ga_sz, ga_sr, ga_sa, ga_sb, ga_sy, gb_si, gb_sl, gb_sz, gb_sr, gb_sa, gb_sb, gb_sy, gy_si, gy_sl, gy_sz, gy_sr, gy_sa, gy_sb, gy_sy, reduceIte, Nat.reduceEqDiff, and_true, true_and, and_self, false_and, and_false]
theorem ck_ga37 (S : ST) (g : Nat → Int32) (n : Nat) (j : Nat) : ga (ck S g n) 37 j = ga S 37 j := by simp only [ck, gi_si, gi_sl, gi_sz, gi_sr, gi_sa, gi_sb, gi_sy, gl_si, gl_sl, gl_sz, gl_sr, gl_sa, gl_sb, gl_sy, gz_si, gz_sl, gz_sz, gz_sr, gz_sa, gz_sb, gz_sy, gr_si, gr_sl, gr_sz, gr_sr, gr_sa, gr_sb, gr_sy, ga_si, ga_sl, ga_sz, ga_sr, ga_sa, ga_sb, ga_sy, gb_si, gb_sl, gb_sz, gb_sr, gb_sa, gb_sb, gb_sy, gy_si, gy_sl, gy_sz, gy_sr, gy_sa, gy_sb, gy_sy, reduceIte, Nat.reduceEqDiff, and_true, true_and, and_self, false_and, and_false]
theorem ck_ga38 (S : ST) (g : Nat → Int32) (n : Nat) (j : Nat) : ga (ck S g n) 38 j = ga S 38 j := by simp only [ck, gi_si, gi_sl, gi_sz, gi_sr, gi_sa, gi_sb, gi_sy, gl_si, gl_sl, gl_sz, gl_sr, gl_sa, gl_sb, gl_sy, gz_si, gz_sl, gz_sz, gz_sr, gz_sa, gz_sb, gz_sy, gr_si, gr_sl, gr_sz, gr_sr, gr_sa, gr_sb, gr_sy, ga_si, ga_sl, ga_sz, ga_sr, ga_sa, ga_sb, ga_sy, gb_si, gb_sl, gb_sz, gb_sr, gb_sa, gb_sb, gb_sy, gy_si, gy_sl, gy_sz, gy_sr, gy_sa, gy_sb, gy_sy, reduceIte, Nat.reduceEqDiff, and_true, true_and, and_self, false_and, and_false]
theorem ck_gb31 (S : ST) (g : Nat → Int32) (n : Nat) (j : Nat) : gb (ck S g n) 31 j = gb S 31 j := by simp only [ck, gi_si, gi_sl, gi_sz, gi_sr, gi_sa, gi_sb, gi_sy, gl_si, gl_sl, gl_sz, gl_sr, gl_sa, gl_sb, gl_sy, gz_si, gz_sl, gz_sz, gz_sr, gz_sa, gz_sb, gz_sy, gr_si, gr_sl, gr_sz, gr_sr, gr_sa, gr_sb, gr_sy, ga_si, ga_sl, ga_sz, ga_sr, ga_sa, ga_sb, ga_sy, gb_si, gb_sl, gb_sz, gb_sr, gb_sa, gb_sb, gb_sy, gy_si, gy_sl, gy_sz, gy_sr, gy_sa, gy_sb, gy_sy, reduceIte, Nat.reduceEqDiff, and_true, true_and, and_self, false_and, and_false]
section
variable (S : ST) (g1 g2 g : Nat → Int32) (m n : Nat)
theorem cd_1 : ga (cd S g1 g2 m) 13 0 = g1 := by simp only [cd, gi_si, gi_sl, gi_sz, gi_sr, gi_sa, gi_sb, gi_sy, gl_si, gl_sl, gl_sz, gl_sr, gl_sa, gl_sb, gl_sy, gz_si, gz_sl, gz_sz, gz_sr, gz_sa, gz_sb, gz_sy, gr_si, gr_sl, gr_sz, gr_sr, gr_sa, gr_sb, gr_sy, ga_si, ga_sl, ga_sz, ga_sr, ga_sa, ga_sb, ga_sy, gb_si, gb_sl, gb_sz, gb_sr, gb_sa, gb_sb, gb_sy, gy_si, gy_sl, gy_sz, gy_sr, gy_sa, gy_sb, gy_sy, reduceIte, Nat.reduceEqDiff, and_true, true_and, and_self, false_and, and_false]
theorem cd_2 : ga (cd S g1 g2 m) 14 0 = g2 := by simp only [cd, gi_si, gi_sl, gi_sz, gi_sr, gi_sa, gi_sb, gi_sy, gl_si, gl_sl, gl_sz, gl_sr, gl_sa, gl_sb, gl_sy, gz_si, gz_sl, gz_sz, gz_sr, gz_sa, gz_sb, gz_sy, gr_si, gr_sl, gr_sz, gr_sr, gr_sa, gr_sb, gr_sy, ga_si, ga_sl, ga_sz, ga_sr, ga_sa, ga_sb, ga_sy, gb_si, gb_sl, gb_sz, gb_sr, gb_sa, gb_sb, gb_sy, gy_si, gy_sl, gy_sz, gy_sr, gy_sa, gy_sb, gy_sy, reduceIte, Nat.reduceEqDiff, and_true, true_and, and_self, false_and, and_false]
theorem cd_m : gi (ck (cd S g1 g2 m) g n) 0 5 0 = nI m := by simp only [ck, cd, gi_si, gi_sl, gi_sz, gi_sr, gi_sa, gi_sb, gi_sy, gl_si, gl_sl, gl_sz, gl_sr, gl_sa, gl_sb, gl_sy, gz_si, gz_sl, gz_sz, gz_sr, gz_sa, gz_sb, gz_sy, gr_si, gr_sl, gr_sz, gr_sr, gr_sa, gr_sb, gr_sy, ga_si, ga_sl, ga_sz, ga_sr, ga_sa, ga_sb, ga_sy, gb_si, gb_sl, gb_sz, gb_sr, gb_sa, gb_sb, gb_sy, gy_si, gy_sl, gy_sz, gy_sr, gy_sa, gy_sb, gy_sy, reduceIte, Nat.reduceEqDiff, and_true, true_and, and_self, false_and, and_false]
theorem cd_sm (m' : Nat) : si (ck (cd S g1 g2 m) g n) 0 5 0 (nI m') = ck (cd S g1 g2 m') g n := by
  apply ST_ext <;> intros <;> simp only [ck, cd, gi_si, gi_sl, gi_sz, gi_sr, gi_sa, gi_sb, gi_sy, gl_si, gl_sl, gl_sz, gl_sr, gl_sa, gl_sb, gl_sy, gz_si, gz_sl, gz_sz, gz_sr, gz_sa, gz_sb, gz_sy, gr_si, gr_sl, gr_sz, gr_sr, gr_sa, gr_sb, gr_sy, ga_si, ga_sl, ga_sz, ga_sr, ga_sa, ga_sb, ga_sy, gb_si, gb_sl, gb_sz, gb_sr, gb_sa, gb_sb, gb_sy, gy_si, gy_sl, gy_sz, gy_sr, gy_sa, gy_sb, gy_sy, reduceIte, Nat.reduceEqDiff, and_true, true_and, and_self, false_and, and_false]
  (repeat' split) <;> simp_all
theorem up1_self {α : Type} (f : Nat → α) (i : Nat) (x : α) (e : f i = x) : up1 f i x = f := by
  funext k; unfold up1; split <;> simp_all
theorem c_cdchange (h a L : Nat) (x y : Int32) (hL : gi S 1 2 0 = nI L) (hl : L ≤ 256) (ha : a < L) : Ct MX1_change h [vR 1 0, vI (nI a), vI x, vI y] (ck (cd S g1 g2 m) g n) (fun r S' => r = none ∧ S' = ck (cd S (up1 g1 a x) (up1 g2 a y) m) g n) := by
  refine Ct_mono (c_X1_change h 0 (ck (cd S g1 g2 m) g n) a L x y (by decide) (by rw [ck_gi1, cd_gi1]; exact hL) hl ha) ?_
  rintro r S' ⟨rfl, rfl⟩
  refine ⟨rfl, ?_⟩
  apply ST_ext <;> intros <;> simp only [ck, cd, gi_si, gi_sl, gi_sz, gi_sr, gi_sa, gi_sb, gi_sy, gl_si, gl_sl, gl_sz, gl_sr, gl_sa, gl_sb, gl_sy, gz_si, gz_sl, gz_sz, gz_sr, gz_sa, gz_sb, gz_sy, gr_si, gr_sl, gr_sz, gr_sr, gr_sa, gr_sb, gr_sy, ga_si, ga_sl, ga_sz, ga_sr, ga_sa, ga_sb, ga_sy, gb_si, gb_sl, gb_sz, gb_sr, gb_sa, gb_sb, gb_sy, gy_si, gy_sl, gy_sz, gy_sr, gy_sa, gy_sb, gy_sy, reduceIte, Nat.reduceEqDiff, and_true, true_and, and_self, false_and, and_false]
  (repeat' split) <;> simp_all
theorem DbC_ck {d : DB} (hd : DbC S d) : DbC (ck (cd S g1 g2 m) g n) d := by
  unfold DbC at *
  simp only [ck_gi1, ck_gi6, ck_gi7, ck_gi8, ck_gi9, ck_gz6, ck_ga13, ck_ga14, ck_ga22, ck_ga23, ck_ga24, ck_ga25, ck_ga26, ck_ga27, ck_ga28, ck_ga29, ck_ga30, ck_ga37, ck_ga38, ck_gb31, cd_gi1, cd_gi6, cd_gi7, cd_gi8, cd_gi9, cd_gz6, cd_ga22, cd_ga23, cd_ga24, cd_ga25, cd_ga26, cd_ga27, cd_ga28, cd_ga29, cd_ga30, cd_ga37, cd_ga38, cd_gb31]
  exact hd
theorem FrC_ck {tc : Nat} {nm : Nat → Int32} {no : Nat → Nat} (hd : FrC S tc nm no) : FrC (ck (cd S g1 g2 m) g n) tc nm no := by
  unfold FrC at *
  simp only [ck_gi1, ck_gi6, ck_gi7, ck_gi8, ck_gi9, ck_gz6, ck_ga13, ck_ga14, ck_ga22, ck_ga23, ck_ga24, ck_ga25, ck_ga26, ck_ga27, ck_ga28, ck_ga29, ck_ga30, ck_ga37, ck_ga38, ck_gb31, cd_gi1, cd_gi6, cd_gi7, cd_gi8, cd_gi9, cd_gz6, cd_ga22, cd_ga23, cd_ga24, cd_ga25, cd_ga26, cd_ga27, cd_ga28, cd_ga29, cd_ga30, cd_ga37, cd_ga38, cd_gb31]
  exact hd
theorem Tok_ck {T : List (Int32 × Int32)} (hd : TokIs S T) : TokIs (ck (cd S g1 g2 m) g n) T := by
  unfold TokIs at *
  simp only [ck_gi1, ck_gi6, ck_gi7, ck_gi8, ck_gi9, ck_gz6, ck_ga13, ck_ga14, ck_ga22, ck_ga23, ck_ga24, ck_ga25, ck_ga26, ck_ga27, ck_ga28, ck_ga29, ck_ga30, ck_ga37, ck_ga38, ck_gb31, cd_gi1, cd_gi6, cd_gi7, cd_gi8, cd_gi9, cd_gz6, cd_ga22, cd_ga23, cd_ga24, cd_ga25, cd_ga26, cd_ga27, cd_ga28, cd_ga29, cd_ga30, cd_ga37, cd_ga38, cd_gb31]
  exact hd
end
-- places
def fcN (g : Nat → Int32) (x : Int32) : Nat → Nat → Option Nat
  | 0, _ => none
  | k + 1, i => if g i = x then some i else fcN g x k (i + 1)
def oI (o : Option Nat) : Int32 := match o with | none => -1 | some c => nI c
theorem fnd_oI (g : Nat → Int32) (x : Int32) : ∀ k i, fnd g x k i = oI (fcN g x k i) := by
  intro k
  induction k with
  | zero => intro i; rfl
  | succ k ih => intro i; simp only [fnd, fcN]; split <;> simp_all [oI]
theorem fcN_lt {g : Nat → Int32} {x : Int32} : ∀ {k i c : Nat}, fcN g x k i = some c → i ≤ c ∧ c < i + k ∧ g c = x := by
  intro k
  induction k with
  | zero => intro i c h; simp [fcN] at h
  | succ k ih =>
    intro i c h
    simp only [fcN] at h
    split at h
    · simp only [Option.some.injEq] at h; subst h; exact ⟨Nat.le_refl _, by omega, by assumption⟩
    · have := ih h; exact ⟨by omega, by omega, this.2.2⟩
def fcO (d : DB) (T : List (Int32 × Int32)) (nm : Nat → Int32) (no : Nat → Nat) (w i : Nat) : Option Nat := if ¬ kd T (w + 1) = nI 46 ∨ nm i = ct T w then fcN (dCN d (no i)) (wntd T w) (dK d (no i)) 0 else none
def plN (d : DB) (T : List (Int32 × Int32)) (nm : Nat → Int32) (no : Nat → Nat) (w : Nat) : Nat → Nat → Option (Nat × Nat) → Option (Nat × Nat)
  | 0, _, p => p
  | k + 1, i, p => match fcO d T nm no w i with
    | none => plN d T nm no w k (i + 1) p
    | some c => match p with
      | none => plN d T nm no w k (i + 1) (some (i, c))
      | some _ => none
def oP (o : Option (Nat × Nat)) : Int32 := match o with | none => -1 | some (i, c) => nI (i * 4 + c)
theorem nIm1 {n : Nat} (h : n < 2 ^ 31) : ¬ nI n = -1 := by have := n_m1 h; simp only [eq_iff_iff, iff_false] at this; exact this
theorem fpl_plN (d : DB) (T : List (Int32 × Int32)) (nm : Nat → Int32) (no : Nat → Nat) (w : Nat) : ∀ (k i : Nat) (p : Option (Nat × Nat)), i + k ≤ 2 → (∀ j, j < i + k → dK d (no j) ≤ 4) → (∀ a b, p = some (a, b) → a < 2 ∧ b < 4) → fpl d T nm no w k i (oP p) = oP (plN d T nm no w k i p) := by
  intro k
  induction k with
  | zero => intro i p _ _ _; rfl
  | succ k ih =>
    intro i p hi hk hp
    have e : fcI d T nm no w i = oI (fcO d T nm no w i) := by
      unfold fcI fcO
      split
      · exact fnd_oI _ _ _ _
      · rfl
    have hb : ∀ c, fcO d T nm no w i = some c → c < 4 := by
      intro c hc
      unfold fcO at hc
      split at hc
      · have := fcN_lt hc; have := hk i (by omega); omega
      · simp at hc
    simp only [plN]
    rcases hq : fcO d T nm no w i with _ | c
    · rw [fpl_n (by rw [e, hq]; rfl)]
      exact ih (i + 1) p (by omega) (fun j hj => hk j (by omega)) hp
    · have hc := hb c hq
      have e1 : fcI d T nm no w i = nI c := by rw [e, hq]; rfl
      have e2 : ¬ fcI d T nm no w i = -1 := by rw [e1]; exact nIm1 (by omega)
      rcases p with _ | ⟨a, b⟩
      · show fpl d T nm no w (k + 1) i (-1) = _
        rw [fpl_s e2 rfl, e1, pk_mul, nI_add]
        exact ih (i + 1) (some (i, c)) (by omega) (fun j hj => hk j (by omega)) (fun a b hab => by simp only [Option.some.injEq, Prod.mk.injEq] at hab; omega)
      · have := hp a b rfl
        show fpl d T nm no w (k + 1) i (nI (a * 4 + b)) = _
        rw [fpl_b e2 (nIm1 (by omega))]
        rfl
theorem plN_lt {d : DB} {T : List (Int32 × Int32)} {nm : Nat → Int32} {no : Nat → Nat} {w : Nat} : ∀ {k i : Nat} {p : Option (Nat × Nat)} {a b N : Nat}, plN d T nm no w k i p = some (a, b) → i + k ≤ N → (∀ a b, p = some (a, b) → a < N ∧ b < dK d (no a)) → a < N ∧ b < dK d (no a) := by
  intro k
  induction k with
  | zero => intro i p a b N h _ hp; exact hp a b h
  | succ k ih =>
    intro i p a b N h hN hp
    simp only [plN] at h
    rcases hq : fcO d T nm no w i with _ | c
    · rw [hq] at h; exact ih h (by omega) hp
    · rw [hq] at h
      have hc : c < dK d (no i) := by
        unfold fcO at hq
        split at hq
        · have := fcN_lt hq; omega
        · simp at hq
      rcases p with _ | ⟨x, y⟩
      · exact ih h (by omega) (fun a b hab => by simp only [Option.some.injEq, Prod.mk.injEq] at hab; obtain ⟨rfl, rfl⟩ := hab; exact ⟨by omega, hc⟩)
      · simp at h
/-- a place: which table of the statement, which column -/
def plc (d : DB) (T : List (Int32 × Int32)) (nm : Nat → Int32) (no : Nat → Nat) (tc w : Nat) : Option (Nat × Nat) := plN d T nm no w tc 0 none
theorem c_place (h : Nat) (S : ST) (d : DB) (T : List (Int32 × Int32)) (nm : Nat → Int32) (no : Nat → Nat) (tc w : Nat) (hd : DbC S d) (hT : TokIs S T) (hf : FrC S tc nm no) (hw : w < 1000) : Ct MX0_findPlace (h + 1) [vR 0 0, vI (nI w)] S (fun r S' => r = some (vI (oP (plc d T nm no tc w))) ∧ S' = S) := by
  have := c_findPlace h S d T nm no tc w hd hT hf hw
  rwa [show fpl d T nm no w tc 0 (-1) = oP (plc d T nm no tc w) from fpl_plN d T nm no w tc 0 none (by have := hf.2.1; omega) (fun j hj => (hd.2 (no j) (hf.2.2 j (by omega)).2.2).2.1.1) (by intro a b z; simp at z)] at this
/-- one word: the fault or 0, the word it becomes, the pile of types -/
def ck1 (P : Nat → Option (Nat × Nat)) (ty : Nat → Nat → Int32) (w : Int32 × Int32) (g : Nat → Int32) (n : Nat) : Int32 × (Int32 × Int32) × (Nat → Int32) × Nat :=
  if w.1 = nI 50 then (match P w.2.toNatClampNeg with | none => (-1001, w, g, n) | some (i, c) => (nI 0, (nI (4 + i), nI c), up1 g n (ty i c), n + 1))
  else if w.1 = nI 1 then (nI 0, w, up1 g n (nI 1), n + 1)
  else if w.1 = nI 2 then (nI 0, w, up1 g n (nI 2), n + 1)
  else if w.1 = nI 3 then (nI 0, w, up1 g n (nI 0), n + 1)
  else if w.1 = nI 6 then (if g (n - 1) = nI 2 then -1002 else nI 0, w, up1 g (n - 1) (nI 1), n - 1 + 1)
  else if w.1 = nI 17 then (nI 0, w, up1 g (n - 1) (nI 0), n - 1 + 1)
  else if w.1 = nI 18 then (nI 0, w, up1 g (n - 1) (nI 0), n - 1 + 1)
  else if nI 10 < w.1 then (if clashB (g (n - 1 - 1)) (g (n - 1)) = true then -1002 else nI 0, w, up1 g (n - 1 - 1) (nI 0), n - 1 - 1 + 1)
  else (if g (n - 1 - 1) = nI 2 ∨ g (n - 1) = nI 2 then -1002 else nI 0, w, up1 g (n - 1 - 1) (nI 1), n - 1 - 1 + 1)
/-- how many values a word takes off (o: its number) -/
def arty (o : Nat) : Nat := if o ≤ 5 ∨ o = 50 then 0 else if o = 6 ∨ o = 17 ∨ o = 18 then 1 else 2
def opok (o : Nat) : Prop := (1 ≤ o ∧ o ≤ 3) ∨ (6 ≤ o ∧ o ≤ 20) ∨ o = 50
section
variable (h : Nat) (S : ST) (d : DB) (T : List (Int32 × Int32)) (nm : Nat → Int32) (no : Nat → Nat) (tc : Nat) (g1 g2 g : Nat → Int32) (m n a L : Nat)
theorem c_checkPlace (w : Nat) (hd : DbC S d) (hT : TokIs S T) (hf : FrC S tc nm no) (hL : gi S 1 2 0 = nI L) (hl : L ≤ 256) (ha : a < L) (hw : w < 1000) (e2 : g2 a = nI w) (hn : n < 200) : Ct MX0_checkPlace (h + 2) [vR 0 0, vI (nI a)] (ck (cd S g1 g2 m) g n) (fun r S' => (plc d T nm no tc w = none ∧ r = some (vI (-1001)) ∧ S' = ck (cd S g1 g2 m) g n) ∨ (∃ i c, plc d T nm no tc w = some (i, c) ∧ r = some (vI (nI 0)) ∧ S' = ck (cd S (up1 g1 a (nI (4 + i))) (up1 g2 a (nI c)) m) (up1 g n (dCT d (no i) c)) (n + 1))) := by
  have hp : Ct MX0_findPlace (h + 1) [vR 0 0, vI (nI w)] (ck (cd S g1 g2 m) g n) (fun r S' => r = some (vI (oP (plc d T nm no tc w))) ∧ S' = (ck (cd S g1 g2 m) g n)) := c_place h (ck (cd S g1 g2 m) g n) d T nm no tc w (DbC_ck S g1 g2 g m n hd) (Tok_ck S g1 g2 g m n hT) (FrC_ck S g1 g2 g m n hf) hw
  have hA : ∀ h, Ct MX1_argumentAt h [vR 1 0, vI (nI a)] (ck (cd S g1 g2 m) g n) (fun r S' => r = some (vI (nI w)) ∧ S' = (ck (cd S g1 g2 m) g n)) := by
    intro h
    have := c_X1_argumentAt h 0 (ck (cd S g1 g2 m) g n) a L (by decide) (by rw [ck_gi1, cd_gi1]; exact hL) hl (by omega)
    rw [if_pos ha, ck_ga14, cd_2, e2] at this
    exact this
  rcases hq : plc d T nm no tc w with _ | ⟨i, c⟩
  · rw [hq, oP] at hp
    refine e_X0_checkPlace ?_
    repeat' (first | ((first | with_reducible refine b_X0_checkPlace_0 ?_ | ((with_reducible refine k_X0_checkPlace_9 (hA _) ?_ (by first | decide | assumption | (simp only [NI]; omega)) (Nat.le_of_ble_eq_true rfl)); rintro r S' ⟨rfl, rfl⟩) | ((with_reducible refine k_X0_checkPlace_12 (hp) ?_ (by first | decide | assumption | (simp only [NI]; omega)) (Nat.le_of_ble_eq_true rfl)); rintro r S' ⟨rfl, rfl⟩) | with_reducible refine b_X0_checkPlace_15 ?_ | with_reducible refine b_X0_checkPlace_21 ?_ | with_reducible refine b_X0_checkPlace_25 ?_ | with_reducible refine b_X0_checkPlace_54 ?_ | with_reducible refine b_X0_checkPlace_58 ?_ | ((with_reducible refine k_X0_checkPlace_65 (c_X8_tableAt _ _ _ (by omega)) ?_ (by first | decide | assumption | (simp only [NI]; omega)) (Nat.le_of_ble_eq_true rfl)); rintro r S' ⟨rfl, rfl⟩) | with_reducible refine b_X0_checkPlace_68 ?_ | with_reducible refine b_X0_checkPlace_75 ?_) <;> (try simp only [o_al, o_c, o_get, o_iald, o_idiv, o_il, o_irem, o_is, t_2, t_ir, decide_true, decide_false, Bool.decide_eq_true, Bool.not_eq_false, Bool.not_eq_true, bft, btf, false_implies, true_implies, decide_eq_true_eq, decide_eq_false_iff_not, fv, st1, st2, kl, cat1, List.getElem?_cons_zero, List.getElem?_cons_succ, List.set_cons_zero, List.set_cons_succ, List.length_cons, List.length_nil, List.forall_mem_cons, List.not_mem_nil, Option.toList_some, Option.toList_none, List.cons_append, List.nil_append, and_true, true_and, and_self, reduceIte, Nat.reduceEqDiff, Nat.reduceLT, Nat.reduceAdd, Nat.lt_add_one, Nat.zero_lt_one, Nat.reduceLeDiff, false_and, and_false, forall_const, eq_self, not_true_eq_false, not_false_eq_true, implies_true, forall_eq, b2i_t, b2i_f, true_or, or_true, or_self, or_false, false_or, z01, z10, d10, d01, b2i_01, b2i_d, b2i_eq0, b2i_eq1, b2i_inj, Bool.true_eq_false, Bool.false_eq_true, gi_si, gi_sl, gi_sz, gi_sr, gi_sa, gi_sb, gi_sy, gl_si, gl_sl, gl_sz, gl_sr, gl_sa, gl_sb, gl_sy, gz_si, gz_sl, gz_sz, gz_sr, gz_sa, gz_sb, gz_sy, gr_si, gr_sl, gr_sz, gr_sr, gr_sa, gr_sb, gr_sy, ga_si, ga_sl, ga_sz, ga_sr, ga_sa, ga_sb, ga_sy, gb_si, gb_sl, gb_sz, gb_sr, gb_sa, gb_sb, gb_sy, gy_si, gy_sl, gy_sz, gy_sr, gy_sa, gy_sb, gy_sy, NI_0, NI_1, NI_6, NI_7, NI_8, NI_23, LY_0, LY_1, LY_6, LY_7, LY_8, LY_23])) | ((with_reducible apply br_V) <;> intro hc) | ((with_reducible apply br_C) <;> try intro hc) | (with_reducible apply an_I) | (with_reducible apply an_V) | (with_reducible apply an_A))
    all_goals exact Or.inl ⟨rfl, rfl, rfl⟩
  · rw [hq, oP] at hp
    have hb := plN_lt (N := tc) hq (by omega) (by intro a b z; simp at z)
    obtain ⟨f1, f2, f3⟩ := hf.2.2 i hb.1
    obtain ⟨⟨t1, t2, t3⟩, ⟨t4, t5⟩, t6, t7, t8⟩ := hd.2 (no i) f3
    have htc := hf.2.1
    have i1 : vp_in (nI i) 2 := vp_in_nI (by omega) (by decide)
    have k1 : (nI i).toNatClampNeg = i := nI_clamp (by omega)
    have hne : ¬ nI (i * 4 + c) = -1 := nIm1 (by omega)
    have r2 : nI (i * 4 + c) / nI 4 = nI i := by
      have : ∀ i, i < 2 → ∀ c, c < 4 → nI (i * 4 + c) / nI 4 = nI i := by decide
      exact this i (by omega) c (by omega)
    have r3 : ¬ nI 4 = 0 := by decide
    have r4 : nI (i * 4 + c) - nI i * nI 4 = nI c := by rw [pk_mul, pk_sub (by omega)]; congr 1; omega
    have hld : ∀ h S, Ct MX0_loadOf h [vI (nI (i * 4 + c))] S (fun r S' => r = some (vI (nI (4 + i))) ∧ S' = S) := by
      intro h S
      have := c_X0_loadOf h S (i * 4 + c) (by omega)
      rwa [show (if i * 4 + c < 4 then nI 4 else nI 5) = nI (4 + i) by
        rcases (show i = 0 ∨ i = 1 by omega) with rfl | rfl
        · rw [if_pos (by omega)]
        · rw [if_neg (by omega)]] at this
    have hty : ∀ h g1 g2, Ct MX7_typeOf h [vR 7 (no i), vI (nI c)] (ck (cd S g1 g2 m) g n) (fun r S' => r = some (vI (dCT d (no i) c)) ∧ S' = (ck (cd S g1 g2 m) g n)) := by
      intro h g1 g2
      have := c_X7_typeOf h (no i) (ck (cd S g1 g2 m) g n) (dK d (no i)) c f3 (by rw [ck_gi7, cd_gi7]; exact t2) t4 (by omega)
      rwa [ck_ga30, cd_ga30, t7] at this
    refine e_X0_checkPlace ?_
    repeat' (first | ((first | with_reducible refine b_X0_checkPlace_0 ?_ | ((with_reducible refine k_X0_checkPlace_9 (hA _) ?_ (by first | decide | assumption | (simp only [NI]; omega)) (Nat.le_of_ble_eq_true rfl)); rintro r S' ⟨rfl, rfl⟩) | ((with_reducible refine k_X0_checkPlace_12 (hp) ?_ (by first | decide | assumption | (simp only [NI]; omega)) (Nat.le_of_ble_eq_true rfl)); rintro r S' ⟨rfl, rfl⟩) | with_reducible refine b_X0_checkPlace_15 ?_ | with_reducible refine b_X0_checkPlace_21 ?_ | with_reducible refine b_X0_checkPlace_25 ?_ | ((with_reducible refine k_X0_checkPlace_51 (hld _ _) ?_ (Nat.le_of_ble_eq_true rfl)); rintro r S' ⟨rfl, rfl⟩) | with_reducible refine b_X0_checkPlace_54 ?_ | ((with_reducible refine k_X0_checkPlace_55 (c_cdchange _ _ _ _ _ _ _ _ L _ _ hL hl ha) ?_ (by first | decide | assumption | (simp only [NI]; omega)) (Nat.le_of_ble_eq_true rfl)); rintro r S' ⟨rfl, rfl⟩) | with_reducible refine b_X0_checkPlace_58 ?_ | ((with_reducible refine k_X0_checkPlace_65 (c_X8_tableAt _ _ _ f3) ?_ (by first | decide | assumption | (simp only [NI]; omega)) (Nat.le_of_ble_eq_true rfl)); rintro r S' ⟨rfl, rfl⟩) | with_reducible refine b_X0_checkPlace_68 ?_ | ((with_reducible refine k_X0_checkPlace_69 (hty _ _ _) ?_ (by first | decide | assumption | (simp only [NI]; omega)) (Nat.le_of_ble_eq_true rfl)); rintro r S' ⟨rfl, rfl⟩) | ((with_reducible refine k_X0_checkPlace_72 (c_X0_push _ _ _ _ _ hn) ?_ (by first | decide | assumption | (simp only [NI]; omega)) (Nat.le_of_ble_eq_true rfl)); rintro r S' ⟨rfl, rfl⟩) | with_reducible refine b_X0_checkPlace_75 ?_) <;> (try simp only [o_al, o_c, o_get, o_iald, o_idiv, o_il, o_irem, o_is, t_2, t_ir, decide_true, decide_false, Bool.decide_eq_true, Bool.not_eq_false, Bool.not_eq_true, bft, btf, false_implies, true_implies, decide_eq_true_eq, decide_eq_false_iff_not, fv, st1, st2, kl, cat1, List.getElem?_cons_zero, List.getElem?_cons_succ, List.set_cons_zero, List.set_cons_succ, List.length_cons, List.length_nil, List.forall_mem_cons, List.not_mem_nil, Option.toList_some, Option.toList_none, List.cons_append, List.nil_append, and_true, true_and, and_self, reduceIte, Nat.reduceEqDiff, Nat.reduceLT, Nat.reduceAdd, Nat.lt_add_one, Nat.zero_lt_one, Nat.reduceLeDiff, false_and, and_false, forall_const, eq_self, not_true_eq_false, not_false_eq_true, implies_true, forall_eq, b2i_t, b2i_f, true_or, or_true, or_self, or_false, false_or, z01, z10, d10, d01, b2i_01, b2i_d, b2i_eq0, b2i_eq1, b2i_inj, Bool.true_eq_false, Bool.false_eq_true, gi_si, gi_sl, gi_sz, gi_sr, gi_sa, gi_sb, gi_sy, gl_si, gl_sl, gl_sz, gl_sr, gl_sa, gl_sb, gl_sy, gz_si, gz_sl, gz_sz, gz_sr, gz_sa, gz_sb, gz_sy, gr_si, gr_sl, gr_sz, gr_sr, gr_sa, gr_sb, gr_sy, ga_si, ga_sl, ga_sz, ga_sr, ga_sa, ga_sb, ga_sy, gb_si, gb_sl, gb_sz, gb_sr, gb_sa, gb_sb, gb_sy, gy_si, gy_sl, gy_sz, gy_sr, gy_sa, gy_sb, gy_sy, NI_0, NI_1, NI_6, NI_7, NI_8, NI_23, LY_0, LY_1, LY_6, LY_7, LY_8, LY_23, i1, k1, hne, r2, r3, r4, ck_ga23, cd_ga23, f2])) | ((with_reducible apply br_V) <;> intro hc) | ((with_reducible apply br_C) <;> try intro hc) | (with_reducible apply an_I) | (with_reducible apply an_V) | (with_reducible apply an_A))
    all_goals first | exact Or.inr ⟨i, c, rfl, rfl, rfl⟩ | (exact ⟨i, c, rfl, rfl, rfl⟩) | (simp; done)
end
