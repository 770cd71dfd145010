abbrev KD : Type := (Nat × Nat) ⊕ (Nat × Nat × Nat)
def LY (c : Nat) : Option KD := match c with
  | 0 => some (.inl (0, 6))
  | 1 => some (.inl (1, 3))
  | 2 => some (.inl (2, 18))
  | 3 => some (.inl (3, 2))
  | 4 => some (.inl (4, 3))
  | 5 => some (.inl (5, 5))
  | 6 => some (.inl (6, 17))
  | 7 => some (.inl (7, 8))
  | 8 => some (.inl (8, 2))
  | 9 => some (.inl (9, 3))
  | 10 => some (.inl (10, 8))
  | 11 => some (.inl (11, 44))
  | 12 => some (.inr (0, 200, 0))
  | 13 => some (.inr (0, 256, 0))
  | 14 => some (.inr (0, 256, 0))
  | 15 => some (.inr (3, 10, 0))
  | 18 => some (.inr (3, 2304, 0))
  | 20 => some (.inr (0, 576, 0))
  | 21 => some (.inr (0, 576, 0))
  | 22 => some (.inr (0, 2, 0))
  | 23 => some (.inr (0, 2, 0))
  | 24 => some (.inr (0, 4, 0))
  | 25 => some (.inr (0, 4, 0))
  | 26 => some (.inr (0, 4, 0))
  | 27 => some (.inr (0, 4, 0))
  | 28 => some (.inr (0, 4, 0))
  | 29 => some (.inr (0, 4, 0))
  | 30 => some (.inr (0, 4, 0))
  | 31 => some (.inr (3, 96, 0))
  | 33 => some (.inr (1, 24, 0))
  | 34 => some (.inr (3, 24, 0))
  | 36 => some (.inr (4, 4, 7))
  | 37 => some (.inr (0, 200, 0))
  | 38 => some (.inr (0, 200, 0))
  | 39 => some (.inr (2, 200, 0))
  | 40 => some (.inr (0, 200, 0))
  | 41 => some (.inr (0, 202, 0))
  | 42 => some (.inr (3, 202, 0))
  | 43 => some (.inr (0, 220, 0))
  | 44 => some (.inr (0, 220, 0))
  | 45 => some (.inr (0, 220, 0))
  | 46 => some (.inr (3, 220, 0))
  | 47 => some (.inr (3, 220, 0))
  | 48 => some (.inr (0, 220, 0))
  | 49 => some (.inr (0, 220, 0))
  | 50 => some (.inr (3, 4, 0))
  | 51 => some (.inr (0, 4, 0))
  | 52 => some (.inr (3, 16, 0))
  | 53 => some (.inr (1, 16, 0))
  | 54 => some (.inr (0, 4, 0))
  | 55 => some (.inr (0, 384, 0))
  | 56 => some (.inr (1, 384, 0))
  | 57 => some (.inr (3, 2, 0))
  | 58 => some (.inr (0, 2, 0))
  | 59 => some (.inr (0, 2, 0))
  | 60 => some (.inr (0, 2304, 0))
  | 61 => some (.inr (1, 2304, 0))
  | 62 => some (.inr (0, 2304, 0))
  | 63 => some (.inr (1, 2304, 0))
  | 64 => some (.inr (3, 2304, 0))
  | 65 => some (.inr (0, 2304, 0))
  | 66 => some (.inr (0, 4, 0))
  | 67 => some (.inr (0, 24, 0))
  | 68 => some (.inr (1, 24, 0))
  | 69 => some (.inr (1, 24, 0))
  | _ => none
def NI (c : Nat) : Nat := match c with
  | 0 => 1
  | 1 => 2
  | 2 => 1
  | 3 => 1
  | 4 => 1
  | 5 => 2
  | 6 => 1
  | 7 => 4
  | 8 => 1
  | 9 => 1
  | 10 => 1
  | 11 => 1
  | 12 => 1
  | 13 => 2
  | 14 => 2
  | 15 => 1
  | 16 => 0
  | 17 => 0
  | 18 => 2
  | 19 => 0
  | 20 => 2
  | 21 => 2
  | 22 => 1
  | 23 => 1
  | 24 => 1
  | 25 => 1
  | 26 => 1
  | 27 => 1
  | 28 => 1
  | 29 => 4
  | 30 => 4
  | 31 => 4
  | 32 => 0
  | 33 => 4
  | 34 => 4
  | 35 => 0
  | 36 => 1
  | 37 => 1
  | 38 => 1
  | 39 => 1
  | 40 => 1
  | 41 => 1
  | 42 => 1
  | 43 => 1
  | 44 => 1
  | 45 => 1
  | 46 => 1
  | 47 => 1
  | 48 => 1
  | 49 => 1
  | 50 => 1
  | 51 => 1
  | 52 => 1
  | 53 => 1
  | 54 => 1
  | 55 => 1
  | 56 => 1
  | 57 => 1
  | 58 => 1
  | 59 => 1
  | 60 => 1
  | 61 => 1
  | 62 => 1
  | 63 => 1
  | 64 => 1
  | 65 => 1
  | 66 => 1
  | 67 => 1
  | 68 => 1
  | 69 => 1
  | _ => 0
def FT (c k : Nat) : Nat × Nat × Nat := match c, k with
  | 0, 0 => (4, 9, 0)
  | 0, 1 => (4, 6, 0)
  | 0, 2 => (4, 8, 0)
  | 0, 3 => (3, 12, 0)
  | 0, 4 => (0, 0, 0)
  | 0, 5 => (0, 0, 0)
  | 1, 0 => (3, 13, 0)
  | 1, 1 => (3, 14, 0)
  | 1, 2 => (0, 0, 0)
  | 2, 0 => (4, 1, 1)
  | 2, 1 => (4, 8, 0)
  | 2, 2 => (3, 15, 0)
  | 2, 3 => (5, 5, 0)
  | 2, 4 => (5, 5, 0)
  | 2, 5 => (5, 7, 0)
  | 2, 6 => (5, 7, 0)
  | 2, 7 => (0, 0, 0)
  | 2, 8 => (0, 0, 0)
  | 2, 9 => (0, 0, 0)
  | 2, 10 => (0, 0, 0)
  | 2, 11 => (0, 0, 0)
  | 2, 12 => (0, 0, 0)
  | 2, 13 => (2, 0, 0)
  | 2, 14 => (2, 0, 0)
  | 2, 15 => (1, 0, 0)
  | 2, 16 => (1, 0, 0)
  | 2, 17 => (1, 0, 0)
  | 3, 0 => (4, 6, 0)
  | 3, 1 => (4, 1, 1)
  | 4, 0 => (4, 9, 0)
  | 4, 1 => (4, 6, 0)
  | 4, 2 => (0, 0, 0)
  | 5, 0 => (3, 18, 0)
  | 5, 1 => (3, 20, 0)
  | 5, 2 => (3, 21, 0)
  | 5, 3 => (0, 0, 0)
  | 5, 4 => (0, 0, 0)
  | 6, 0 => (4, 1, 0)
  | 6, 1 => (3, 22, 0)
  | 6, 2 => (3, 23, 0)
  | 6, 3 => (3, 24, 0)
  | 6, 4 => (3, 25, 0)
  | 6, 5 => (3, 26, 0)
  | 6, 6 => (3, 27, 0)
  | 6, 7 => (3, 28, 0)
  | 6, 8 => (0, 0, 0)
  | 6, 9 => (0, 0, 0)
  | 6, 10 => (0, 0, 0)
  | 6, 11 => (0, 0, 0)
  | 6, 12 => (0, 0, 0)
  | 6, 13 => (0, 0, 0)
  | 6, 14 => (0, 0, 0)
  | 6, 15 => (0, 0, 0)
  | 6, 16 => (2, 0, 0)
  | 7, 0 => (3, 29, 0)
  | 7, 1 => (3, 30, 0)
  | 7, 2 => (3, 31, 0)
  | 7, 3 => (3, 33, 0)
  | 7, 4 => (3, 34, 0)
  | 7, 5 => (0, 0, 0)
  | 7, 6 => (0, 0, 0)
  | 7, 7 => (0, 0, 0)
  | 8, 0 => (3, 36, 0)
  | 8, 1 => (0, 0, 0)
  | 9, 0 => (3, 37, 0)
  | 9, 1 => (3, 38, 0)
  | 9, 2 => (0, 0, 0)
  | 10, 0 => (3, 39, 0)
  | 10, 1 => (0, 0, 0)
  | 10, 2 => (4, 9, 0)
  | 10, 3 => (4, 8, 0)
  | 10, 4 => (4, 4, 0)
  | 10, 5 => (4, 0, 0)
  | 10, 6 => (4, 3, 0)
  | 10, 7 => (4, 2, 0)
  | 11, 0 => (3, 40, 0)
  | 11, 1 => (0, 0, 0)
  | 11, 2 => (3, 41, 0)
  | 11, 3 => (3, 42, 0)
  | 11, 4 => (0, 0, 0)
  | 11, 5 => (0, 0, 0)
  | 11, 6 => (0, 0, 0)
  | 11, 7 => (0, 0, 0)
  | 11, 8 => (3, 43, 0)
  | 11, 9 => (3, 44, 0)
  | 11, 10 => (3, 45, 0)
  | 11, 11 => (3, 46, 0)
  | 11, 12 => (3, 47, 0)
  | 11, 13 => (3, 48, 0)
  | 11, 14 => (3, 49, 0)
  | 11, 15 => (0, 0, 0)
  | 11, 16 => (0, 0, 0)
  | 11, 17 => (3, 50, 0)
  | 11, 18 => (3, 51, 0)
  | 11, 19 => (3, 52, 0)
  | 11, 20 => (3, 53, 0)
  | 11, 21 => (3, 54, 0)
  | 11, 22 => (3, 55, 0)
  | 11, 23 => (3, 56, 0)
  | 11, 24 => (0, 0, 0)
  | 11, 25 => (3, 57, 0)
  | 11, 26 => (3, 58, 0)
  | 11, 27 => (3, 59, 0)
  | 11, 28 => (0, 0, 0)
  | 11, 29 => (2, 0, 0)
  | 11, 30 => (0, 0, 0)
  | 11, 31 => (0, 0, 0)
  | 11, 32 => (3, 60, 0)
  | 11, 33 => (3, 61, 0)
  | 11, 34 => (0, 0, 0)
  | 11, 35 => (3, 62, 0)
  | 11, 36 => (3, 63, 0)
  | 11, 37 => (3, 64, 0)
  | 11, 38 => (3, 65, 0)
  | 11, 39 => (3, 66, 0)
  | 11, 40 => (0, 0, 0)
  | 11, 41 => (3, 67, 0)
  | 11, 42 => (3, 68, 0)
  | 11, 43 => (3, 69, 0)
  | _, _ => (0, 0, 0)
theorem LY_0 : LY 0 = some (.inl (0, 6)) := rfl
theorem NI_0 : NI 0 = 1 := rfl
theorem LY_1 : LY 1 = some (.inl (1, 3)) := rfl
theorem NI_1 : NI 1 = 2 := rfl
theorem LY_2 : LY 2 = some (.inl (2, 18)) := rfl
theorem NI_2 : NI 2 = 1 := rfl
theorem LY_3 : LY 3 = some (.inl (3, 2)) := rfl
theorem NI_3 : NI 3 = 1 := rfl
theorem LY_4 : LY 4 = some (.inl (4, 3)) := rfl
theorem NI_4 : NI 4 = 1 := rfl
theorem LY_5 : LY 5 = some (.inl (5, 5)) := rfl
theorem NI_5 : NI 5 = 2 := rfl
theorem LY_6 : LY 6 = some (.inl (6, 17)) := rfl
theorem NI_6 : NI 6 = 1 := rfl
theorem LY_7 : LY 7 = some (.inl (7, 8)) := rfl
theorem NI_7 : NI 7 = 4 := rfl
theorem LY_8 : LY 8 = some (.inl (8, 2)) := rfl
theorem NI_8 : NI 8 = 1 := rfl
theorem LY_9 : LY 9 = some (.inl (9, 3)) := rfl
theorem NI_9 : NI 9 = 1 := rfl
theorem LY_10 : LY 10 = some (.inl (10, 8)) := rfl
theorem NI_10 : NI 10 = 1 := rfl
theorem LY_11 : LY 11 = some (.inl (11, 44)) := rfl
theorem NI_11 : NI 11 = 1 := rfl
theorem LY_12 : LY 12 = some (.inr (0, 200, 0)) := rfl
theorem NI_12 : NI 12 = 1 := rfl
theorem LY_13 : LY 13 = some (.inr (0, 256, 0)) := rfl
theorem NI_13 : NI 13 = 2 := rfl
theorem LY_14 : LY 14 = some (.inr (0, 256, 0)) := rfl
theorem NI_14 : NI 14 = 2 := rfl
theorem LY_15 : LY 15 = some (.inr (3, 10, 0)) := rfl
theorem NI_15 : NI 15 = 1 := rfl
theorem LY_16 : LY 16 = none := rfl
theorem NI_16 : NI 16 = 0 := rfl
theorem LY_17 : LY 17 = none := rfl
theorem NI_17 : NI 17 = 0 := rfl
theorem LY_18 : LY 18 = some (.inr (3, 2304, 0)) := rfl
theorem NI_18 : NI 18 = 2 := rfl
theorem LY_19 : LY 19 = none := rfl
theorem NI_19 : NI 19 = 0 := rfl
theorem LY_20 : LY 20 = some (.inr (0, 576, 0)) := rfl
theorem NI_20 : NI 20 = 2 := rfl
theorem LY_21 : LY 21 = some (.inr (0, 576, 0)) := rfl
theorem NI_21 : NI 21 = 2 := rfl
theorem LY_22 : LY 22 = some (.inr (0, 2, 0)) := rfl
theorem NI_22 : NI 22 = 1 := rfl
theorem LY_23 : LY 23 = some (.inr (0, 2, 0)) := rfl
theorem NI_23 : NI 23 = 1 := rfl
theorem LY_24 : LY 24 = some (.inr (0, 4, 0)) := rfl
theorem NI_24 : NI 24 = 1 := rfl
theorem LY_25 : LY 25 = some (.inr (0, 4, 0)) := rfl
theorem NI_25 : NI 25 = 1 := rfl
theorem LY_26 : LY 26 = some (.inr (0, 4, 0)) := rfl
theorem NI_26 : NI 26 = 1 := rfl
theorem LY_27 : LY 27 = some (.inr (0, 4, 0)) := rfl
theorem NI_27 : NI 27 = 1 := rfl
theorem LY_28 : LY 28 = some (.inr (0, 4, 0)) := rfl
theorem NI_28 : NI 28 = 1 := rfl
theorem LY_29 : LY 29 = some (.inr (0, 4, 0)) := rfl
theorem NI_29 : NI 29 = 4 := rfl
theorem LY_30 : LY 30 = some (.inr (0, 4, 0)) := rfl
theorem NI_30 : NI 30 = 4 := rfl
theorem LY_31 : LY 31 = some (.inr (3, 96, 0)) := rfl
theorem NI_31 : NI 31 = 4 := rfl
theorem LY_32 : LY 32 = none := rfl
theorem NI_32 : NI 32 = 0 := rfl
theorem LY_33 : LY 33 = some (.inr (1, 24, 0)) := rfl
theorem NI_33 : NI 33 = 4 := rfl
theorem LY_34 : LY 34 = some (.inr (3, 24, 0)) := rfl
theorem NI_34 : NI 34 = 4 := rfl
theorem LY_35 : LY 35 = none := rfl
theorem NI_35 : NI 35 = 0 := rfl
theorem LY_36 : LY 36 = some (.inr (4, 4, 7)) := rfl
theorem NI_36 : NI 36 = 1 := rfl
theorem LY_37 : LY 37 = some (.inr (0, 200, 0)) := rfl
theorem NI_37 : NI 37 = 1 := rfl
theorem LY_38 : LY 38 = some (.inr (0, 200, 0)) := rfl
theorem NI_38 : NI 38 = 1 := rfl
theorem LY_39 : LY 39 = some (.inr (2, 200, 0)) := rfl
theorem NI_39 : NI 39 = 1 := rfl
theorem LY_40 : LY 40 = some (.inr (0, 200, 0)) := rfl
theorem NI_40 : NI 40 = 1 := rfl
theorem LY_41 : LY 41 = some (.inr (0, 202, 0)) := rfl
theorem NI_41 : NI 41 = 1 := rfl
theorem LY_42 : LY 42 = some (.inr (3, 202, 0)) := rfl
theorem NI_42 : NI 42 = 1 := rfl
theorem LY_43 : LY 43 = some (.inr (0, 220, 0)) := rfl
theorem NI_43 : NI 43 = 1 := rfl
theorem LY_44 : LY 44 = some (.inr (0, 220, 0)) := rfl
theorem NI_44 : NI 44 = 1 := rfl
theorem LY_45 : LY 45 = some (.inr (0, 220, 0)) := rfl
theorem NI_45 : NI 45 = 1 := rfl
theorem LY_46 : LY 46 = some (.inr (3, 220, 0)) := rfl
theorem NI_46 : NI 46 = 1 := rfl
theorem LY_47 : LY 47 = some (.inr (3, 220, 0)) := rfl
theorem NI_47 : NI 47 = 1 := rfl
theorem LY_48 : LY 48 = some (.inr (0, 220, 0)) := rfl
theorem NI_48 : NI 48 = 1 := rfl
theorem LY_49 : LY 49 = some (.inr (0, 220, 0)) := rfl
theorem NI_49 : NI 49 = 1 := rfl
theorem LY_50 : LY 50 = some (.inr (3, 4, 0)) := rfl
theorem NI_50 : NI 50 = 1 := rfl
theorem LY_51 : LY 51 = some (.inr (0, 4, 0)) := rfl
theorem NI_51 : NI 51 = 1 := rfl
theorem LY_52 : LY 52 = some (.inr (3, 16, 0)) := rfl
theorem NI_52 : NI 52 = 1 := rfl
theorem LY_53 : LY 53 = some (.inr (1, 16, 0)) := rfl
theorem NI_53 : NI 53 = 1 := rfl
theorem LY_54 : LY 54 = some (.inr (0, 4, 0)) := rfl
theorem NI_54 : NI 54 = 1 := rfl
theorem LY_55 : LY 55 = some (.inr (0, 384, 0)) := rfl
theorem NI_55 : NI 55 = 1 := rfl
theorem LY_56 : LY 56 = some (.inr (1, 384, 0)) := rfl
theorem NI_56 : NI 56 = 1 := rfl
theorem LY_57 : LY 57 = some (.inr (3, 2, 0)) := rfl
theorem NI_57 : NI 57 = 1 := rfl
theorem LY_58 : LY 58 = some (.inr (0, 2, 0)) := rfl
theorem NI_58 : NI 58 = 1 := rfl
theorem LY_59 : LY 59 = some (.inr (0, 2, 0)) := rfl
theorem NI_59 : NI 59 = 1 := rfl
theorem LY_60 : LY 60 = some (.inr (0, 2304, 0)) := rfl
theorem NI_60 : NI 60 = 1 := rfl
theorem LY_61 : LY 61 = some (.inr (1, 2304, 0)) := rfl
theorem NI_61 : NI 61 = 1 := rfl
theorem LY_62 : LY 62 = some (.inr (0, 2304, 0)) := rfl
theorem NI_62 : NI 62 = 1 := rfl
theorem LY_63 : LY 63 = some (.inr (1, 2304, 0)) := rfl
theorem NI_63 : NI 63 = 1 := rfl
theorem LY_64 : LY 64 = some (.inr (3, 2304, 0)) := rfl
theorem NI_64 : NI 64 = 1 := rfl
theorem LY_65 : LY 65 = some (.inr (0, 2304, 0)) := rfl
theorem NI_65 : NI 65 = 1 := rfl
theorem LY_66 : LY 66 = some (.inr (0, 4, 0)) := rfl
theorem NI_66 : NI 66 = 1 := rfl
theorem LY_67 : LY 67 = some (.inr (0, 24, 0)) := rfl
theorem NI_67 : NI 67 = 1 := rfl
theorem LY_68 : LY 68 = some (.inr (1, 24, 0)) := rfl
theorem NI_68 : NI 68 = 1 := rfl
theorem LY_69 : LY 69 = some (.inr (1, 24, 0)) := rfl
theorem NI_69 : NI 69 = 1 := rfl
-- kind 12: QueryForge$Checker.types
-- kind 13: QueryForge$Code.operations
-- kind 14: QueryForge$Code.arguments
-- kind 15: QueryForge$Machine.values
-- kind 18: QueryForge$Result.values
-- kind 20: QueryForge$Result.order
-- kind 21: QueryForge$Result.merged
-- kind 22: QueryForge$Statement.tableNames
-- kind 23: QueryForge$Statement.tableNumbers
-- kind 24: QueryForge$Statement.names
-- kind 25: QueryForge$Statement.types
-- kind 26: QueryForge$Statement.values
-- kind 27: QueryForge$Statement.aggregates
-- kind 28: QueryForge$Statement.itemEnds
-- kind 29: QueryForge$Table.columnNames
-- kind 30: QueryForge$Table.columnTypes
-- kind 31: QueryForge$Table.values
-- kind 33: QueryForge$Table.marked
-- kind 34: QueryForge$Table.newValues
-- kind 36: QueryForge$Tables.all
-- kind 37: QueryForge$Words.kinds
-- kind 38: QueryForge$Words.contents
-- kind 39: QueryForge.signs
-- kind 40: QueryForgeModel.text
-- kind 41: QueryForgeModel.kinds
-- kind 42: QueryForgeModel.values
-- kind 43: QueryForgeModel.what
-- kind 44: QueryForgeModel.left
-- kind 45: QueryForgeModel.right
-- kind 46: QueryForgeModel.held
-- kind 47: QueryForgeModel.prefix
-- kind 48: QueryForgeModel.ofTable
-- kind 49: QueryForgeModel.ofColumn
-- kind 50: QueryForgeModel.names
-- kind 51: QueryForgeModel.columns
-- kind 52: QueryForgeModel.columnNames
-- kind 53: QueryForgeModel.isText
-- kind 54: QueryForgeModel.rows
-- kind 55: QueryForgeModel.cells
-- kind 56: QueryForgeModel.nulls
-- kind 57: QueryForgeModel.called
-- kind 58: QueryForgeModel.asked
-- kind 59: QueryForgeModel.here
-- kind 60: QueryForgeModel.result
-- kind 61: QueryForgeModel.resultNull
-- kind 62: QueryForgeModel.fresh
-- kind 63: QueryForgeModel.freshNull
-- kind 64: QueryForgeModel.sums
-- kind 65: QueryForgeModel.counts
-- kind 66: QueryForgeModel.items
-- kind 67: QueryForgeModel.newCells
-- kind 68: QueryForgeModel.newNulls
-- kind 69: QueryForgeModel.taken
theorem iX0 : ∀ w ∈ u_ws RX0 TX0 6, w ∈ wT := by
  intro w h
  obtain ⟨k, hk, rfl⟩ := List.mem_map.mp h
  have hk := List.mem_range.mp hk
  match k, hk with
  | 0, _ => exact wT_mem 355 (by decide +kernel) (by decide +kernel)
  | 1, _ => exact wT_mem 357 (by decide +kernel) (by decide +kernel)
  | 2, _ => exact wT_mem 359 (by decide +kernel) (by decide +kernel)
  | 3, _ => exact wT_mem 361 (by decide +kernel) (by decide +kernel)
  | 4, _ => exact wT_mem 363 (by decide +kernel) (by decide +kernel)
  | 5, _ => exact wT_mem 365 (by decide +kernel) (by decide +kernel)
  | k + 6, hk => exact absurd hk (by omega)
theorem in_X0 : Cond.initialized RX0 ∈ wT := wT_mem 121 (by decide +kernel) (by decide +kernel)
theorem iX1 : ∀ w ∈ u_ws RX1 TX1 3, w ∈ wT := by
  intro w h
  obtain ⟨k, hk, rfl⟩ := List.mem_map.mp h
  have hk := List.mem_range.mp hk
  match k, hk with
  | 0, _ => exact wT_mem 221 (by decide +kernel) (by decide +kernel)
  | 1, _ => exact wT_mem 223 (by decide +kernel) (by decide +kernel)
  | 2, _ => exact wT_mem 225 (by decide +kernel) (by decide +kernel)
  | k + 3, hk => exact absurd hk (by omega)
theorem in_X1 : Cond.initialized RX1 ∈ wT := wT_mem 119 (by decide +kernel) (by decide +kernel)
theorem iX2 : ∀ w ∈ u_ws RX2 TX2 18, w ∈ wT := by
  intro w h
  obtain ⟨k, hk, rfl⟩ := List.mem_map.mp h
  have hk := List.mem_range.mp hk
  match k, hk with
  | 0, _ => exact wT_mem 431 (by decide +kernel) (by decide +kernel)
  | 1, _ => exact wT_mem 433 (by decide +kernel) (by decide +kernel)
  | 2, _ => exact wT_mem 435 (by decide +kernel) (by decide +kernel)
  | 3, _ => exact wT_mem 437 (by decide +kernel) (by decide +kernel)
  | 4, _ => exact wT_mem 439 (by decide +kernel) (by decide +kernel)
  | 5, _ => exact wT_mem 441 (by decide +kernel) (by decide +kernel)
  | 6, _ => exact wT_mem 443 (by decide +kernel) (by decide +kernel)
  | 7, _ => exact wT_mem 445 (by decide +kernel) (by decide +kernel)
  | 8, _ => exact wT_mem 447 (by decide +kernel) (by decide +kernel)
  | 9, _ => exact wT_mem 449 (by decide +kernel) (by decide +kernel)
  | 10, _ => exact wT_mem 451 (by decide +kernel) (by decide +kernel)
  | 11, _ => exact wT_mem 453 (by decide +kernel) (by decide +kernel)
  | 12, _ => exact wT_mem 455 (by decide +kernel) (by decide +kernel)
  | 13, _ => exact wT_mem 457 (by decide +kernel) (by decide +kernel)
  | 14, _ => exact wT_mem 459 (by decide +kernel) (by decide +kernel)
  | 15, _ => exact wT_mem 461 (by decide +kernel) (by decide +kernel)
  | 16, _ => exact wT_mem 463 (by decide +kernel) (by decide +kernel)
  | 17, _ => exact wT_mem 465 (by decide +kernel) (by decide +kernel)
  | k + 18, hk => exact absurd hk (by omega)
theorem in_X2 : Cond.initialized RX2 ∈ wT := wT_mem 123 (by decide +kernel) (by decide +kernel)
theorem iX3 : ∀ w ∈ u_ws RX3 TX3 2, w ∈ wT := by
  intro w h
  obtain ⟨k, hk, rfl⟩ := List.mem_map.mp h
  have hk := List.mem_range.mp hk
  match k, hk with
  | 0, _ => exact wT_mem 376 (by decide +kernel) (by decide +kernel)
  | 1, _ => exact wT_mem 378 (by decide +kernel) (by decide +kernel)
  | k + 2, hk => exact absurd hk (by omega)
theorem in_X3 : Cond.initialized RX3 ∈ wT := wT_mem 122 (by decide +kernel) (by decide +kernel)
theorem iX4 : ∀ w ∈ u_ws RX4 TX4 3, w ∈ wT := by
  intro w h
  obtain ⟨k, hk, rfl⟩ := List.mem_map.mp h
  have hk := List.mem_range.mp hk
  match k, hk with
  | 0, _ => exact wT_mem 336 (by decide +kernel) (by decide +kernel)
  | 1, _ => exact wT_mem 338 (by decide +kernel) (by decide +kernel)
  | 2, _ => exact wT_mem 340 (by decide +kernel) (by decide +kernel)
  | k + 3, hk => exact absurd hk (by omega)
theorem in_X4 : Cond.initialized RX4 ∈ wT := wT_mem 120 (by decide +kernel) (by decide +kernel)
theorem iX5 : ∀ w ∈ u_ws RX5 TX5 5, w ∈ wT := by
  intro w h
  obtain ⟨k, hk, rfl⟩ := List.mem_map.mp h
  have hk := List.mem_range.mp hk
  match k, hk with
  | 0, _ => exact wT_mem 398 (by decide +kernel) (by decide +kernel)
  | 1, _ => exact wT_mem 400 (by decide +kernel) (by decide +kernel)
  | 2, _ => exact wT_mem 402 (by decide +kernel) (by decide +kernel)
  | 3, _ => exact wT_mem 404 (by decide +kernel) (by decide +kernel)
  | 4, _ => exact wT_mem 406 (by decide +kernel) (by decide +kernel)
  | k + 5, hk => exact absurd hk (by omega)
theorem in_X5 : Cond.initialized RX5 ∈ wT := wT_mem 124 (by decide +kernel) (by decide +kernel)
theorem iX6 : ∀ w ∈ u_ws RX6 TX6 17, w ∈ wT := by
  intro w h
  obtain ⟨k, hk, rfl⟩ := List.mem_map.mp h
  have hk := List.mem_range.mp hk
  match k, hk with
  | 0, _ => exact wT_mem 290 (by decide +kernel) (by decide +kernel)
  | 1, _ => exact wT_mem 292 (by decide +kernel) (by decide +kernel)
  | 2, _ => exact wT_mem 294 (by decide +kernel) (by decide +kernel)
  | 3, _ => exact wT_mem 296 (by decide +kernel) (by decide +kernel)
  | 4, _ => exact wT_mem 298 (by decide +kernel) (by decide +kernel)
  | 5, _ => exact wT_mem 300 (by decide +kernel) (by decide +kernel)
  | 6, _ => exact wT_mem 302 (by decide +kernel) (by decide +kernel)
  | 7, _ => exact wT_mem 304 (by decide +kernel) (by decide +kernel)
  | 8, _ => exact wT_mem 306 (by decide +kernel) (by decide +kernel)
  | 9, _ => exact wT_mem 308 (by decide +kernel) (by decide +kernel)
  | 10, _ => exact wT_mem 310 (by decide +kernel) (by decide +kernel)
  | 11, _ => exact wT_mem 312 (by decide +kernel) (by decide +kernel)
  | 12, _ => exact wT_mem 314 (by decide +kernel) (by decide +kernel)
  | 13, _ => exact wT_mem 316 (by decide +kernel) (by decide +kernel)
  | 14, _ => exact wT_mem 318 (by decide +kernel) (by decide +kernel)
  | 15, _ => exact wT_mem 320 (by decide +kernel) (by decide +kernel)
  | 16, _ => exact wT_mem 322 (by decide +kernel) (by decide +kernel)
  | k + 17, hk => exact absurd hk (by omega)
theorem in_X6 : Cond.initialized RX6 ∈ wT := wT_mem 118 (by decide +kernel) (by decide +kernel)
theorem iX7 : ∀ w ∈ u_ws RX7 TX7 8, w ∈ wT := by
  intro w h
  obtain ⟨k, hk, rfl⟩ := List.mem_map.mp h
  have hk := List.mem_range.mp hk
  match k, hk with
  | 0, _ => exact wT_mem 180 (by decide +kernel) (by decide +kernel)
  | 1, _ => exact wT_mem 182 (by decide +kernel) (by decide +kernel)
  | 2, _ => exact wT_mem 184 (by decide +kernel) (by decide +kernel)
  | 3, _ => exact wT_mem 186 (by decide +kernel) (by decide +kernel)
  | 4, _ => exact wT_mem 188 (by decide +kernel) (by decide +kernel)
  | 5, _ => exact wT_mem 190 (by decide +kernel) (by decide +kernel)
  | 6, _ => exact wT_mem 192 (by decide +kernel) (by decide +kernel)
  | 7, _ => exact wT_mem 194 (by decide +kernel) (by decide +kernel)
  | k + 8, hk => exact absurd hk (by omega)
theorem in_X7 : Cond.initialized RX7 ∈ wT := wT_mem 117 (by decide +kernel) (by decide +kernel)
theorem iX8 : ∀ w ∈ u_ws RX8 TX8 2, w ∈ wT := by
  intro w h
  obtain ⟨k, hk, rfl⟩ := List.mem_map.mp h
  have hk := List.mem_range.mp hk
  match k, hk with
  | 0, _ => exact wT_mem 201 (by decide +kernel) (by decide +kernel)
  | 1, _ => exact wT_mem 203 (by decide +kernel) (by decide +kernel)
  | k + 2, hk => exact absurd hk (by omega)
theorem in_X8 : Cond.initialized RX8 ∈ wT := wT_mem 116 (by decide +kernel) (by decide +kernel)
theorem iX9 : ∀ w ∈ u_ws RX9 TX9 3, w ∈ wT := by
  intro w h
  obtain ⟨k, hk, rfl⟩ := List.mem_map.mp h
  have hk := List.mem_range.mp hk
  match k, hk with
  | 0, _ => exact wT_mem 150 (by decide +kernel) (by decide +kernel)
  | 1, _ => exact wT_mem 152 (by decide +kernel) (by decide +kernel)
  | 2, _ => exact wT_mem 154 (by decide +kernel) (by decide +kernel)
  | k + 3, hk => exact absurd hk (by omega)
theorem in_X9 : Cond.initialized RX9 ∈ wT := wT_mem 115 (by decide +kernel) (by decide +kernel)
theorem iX10 : ∀ w ∈ u_ws RX10 TX10 8, w ∈ wT := by
  intro w h
  obtain ⟨k, hk, rfl⟩ := List.mem_map.mp h
  have hk := List.mem_range.mp hk
  match k, hk with
  | 0, _ => exact wT_mem 476 (by decide +kernel) (by decide +kernel)
  | 1, _ => exact wT_mem 478 (by decide +kernel) (by decide +kernel)
  | 2, _ => exact wT_mem 480 (by decide +kernel) (by decide +kernel)
  | 3, _ => exact wT_mem 482 (by decide +kernel) (by decide +kernel)
  | 4, _ => exact wT_mem 484 (by decide +kernel) (by decide +kernel)
  | 5, _ => exact wT_mem 486 (by decide +kernel) (by decide +kernel)
  | 6, _ => exact wT_mem 488 (by decide +kernel) (by decide +kernel)
  | 7, _ => exact wT_mem 490 (by decide +kernel) (by decide +kernel)
  | k + 8, hk => exact absurd hk (by omega)
theorem in_X10 : Cond.initialized RX10 ∈ wT := wT_mem 114 (by decide +kernel) (by decide +kernel)
theorem iX11 : ∀ w ∈ u_ws RX11 TX11 44, w ∈ wT := by
  intro w h
  obtain ⟨k, hk, rfl⟩ := List.mem_map.mp h
  have hk := List.mem_range.mp hk
  match k, hk with
  | 0, _ => exact wT_mem 1266 (by decide +kernel) (by decide +kernel)
  | 1, _ => exact wT_mem 1268 (by decide +kernel) (by decide +kernel)
  | 2, _ => exact wT_mem 1270 (by decide +kernel) (by decide +kernel)
  | 3, _ => exact wT_mem 1272 (by decide +kernel) (by decide +kernel)
  | 4, _ => exact wT_mem 1274 (by decide +kernel) (by decide +kernel)
  | 5, _ => exact wT_mem 1276 (by decide +kernel) (by decide +kernel)
  | 6, _ => exact wT_mem 1278 (by decide +kernel) (by decide +kernel)
  | 7, _ => exact wT_mem 1280 (by decide +kernel) (by decide +kernel)
  | 8, _ => exact wT_mem 1282 (by decide +kernel) (by decide +kernel)
  | 9, _ => exact wT_mem 1284 (by decide +kernel) (by decide +kernel)
  | 10, _ => exact wT_mem 1286 (by decide +kernel) (by decide +kernel)
  | 11, _ => exact wT_mem 1288 (by decide +kernel) (by decide +kernel)
  | 12, _ => exact wT_mem 1290 (by decide +kernel) (by decide +kernel)
  | 13, _ => exact wT_mem 1292 (by decide +kernel) (by decide +kernel)
  | 14, _ => exact wT_mem 1294 (by decide +kernel) (by decide +kernel)
  | 15, _ => exact wT_mem 1296 (by decide +kernel) (by decide +kernel)
  | 16, _ => exact wT_mem 1298 (by decide +kernel) (by decide +kernel)
  | 17, _ => exact wT_mem 1300 (by decide +kernel) (by decide +kernel)
  | 18, _ => exact wT_mem 1302 (by decide +kernel) (by decide +kernel)
  | 19, _ => exact wT_mem 1304 (by decide +kernel) (by decide +kernel)
  | 20, _ => exact wT_mem 1306 (by decide +kernel) (by decide +kernel)
  | 21, _ => exact wT_mem 1308 (by decide +kernel) (by decide +kernel)
  | 22, _ => exact wT_mem 1310 (by decide +kernel) (by decide +kernel)
  | 23, _ => exact wT_mem 1312 (by decide +kernel) (by decide +kernel)
  | 24, _ => exact wT_mem 1314 (by decide +kernel) (by decide +kernel)
  | 25, _ => exact wT_mem 1316 (by decide +kernel) (by decide +kernel)
  | 26, _ => exact wT_mem 1318 (by decide +kernel) (by decide +kernel)
  | 27, _ => exact wT_mem 1320 (by decide +kernel) (by decide +kernel)
  | 28, _ => exact wT_mem 1322 (by decide +kernel) (by decide +kernel)
  | 29, _ => exact wT_mem 1324 (by decide +kernel) (by decide +kernel)
  | 30, _ => exact wT_mem 1326 (by decide +kernel) (by decide +kernel)
  | 31, _ => exact wT_mem 1328 (by decide +kernel) (by decide +kernel)
  | 32, _ => exact wT_mem 1330 (by decide +kernel) (by decide +kernel)
  | 33, _ => exact wT_mem 1332 (by decide +kernel) (by decide +kernel)
  | 34, _ => exact wT_mem 1334 (by decide +kernel) (by decide +kernel)
  | 35, _ => exact wT_mem 1336 (by decide +kernel) (by decide +kernel)
  | 36, _ => exact wT_mem 1338 (by decide +kernel) (by decide +kernel)
  | 37, _ => exact wT_mem 1340 (by decide +kernel) (by decide +kernel)
  | 38, _ => exact wT_mem 1342 (by decide +kernel) (by decide +kernel)
  | 39, _ => exact wT_mem 1344 (by decide +kernel) (by decide +kernel)
  | 40, _ => exact wT_mem 1346 (by decide +kernel) (by decide +kernel)
  | 41, _ => exact wT_mem 1348 (by decide +kernel) (by decide +kernel)
  | 42, _ => exact wT_mem 1350 (by decide +kernel) (by decide +kernel)
  | 43, _ => exact wT_mem 1352 (by decide +kernel) (by decide +kernel)
  | k + 44, hk => exact absurd hk (by omega)
theorem in_X11 : Cond.initialized RX11 ∈ wT := wT_mem 125 (by decide +kernel) (by decide +kernel)
theorem ml_X10_19 : Cond.methodLink RX10 19 yX9_init ∈ wT := wT_mem 143 (by decide +kernel) (by decide +kernel)
theorem fl_X9_9 : Cond.fieldLink RX9 9 RX9 (TX9 0).2.1 (TX9 0).2.2.1 ∈ wT := wT_mem 147 (by decide +kernel) (by decide +kernel)
theorem fl_X9_15 : Cond.fieldLink RX9 15 RX9 (TX9 1).2.1 (TX9 1).2.2.1 ∈ wT := wT_mem 148 (by decide +kernel) (by decide +kernel)
theorem fl_X9_18 : Cond.fieldLink RX9 18 RX9 (TX9 2).2.1 (TX9 2).2.2.1 ∈ wT := wT_mem 149 (by decide +kernel) (by decide +kernel)
theorem ml_X10_26 : Cond.methodLink RX10 26 yX8_init ∈ wT := wT_mem 161 (by decide +kernel) (by decide +kernel)
theorem ml_X8_17 : Cond.methodLink RX8 17 yX7_init ∈ wT := wT_mem 168 (by decide +kernel) (by decide +kernel)
theorem fl_X7_9 : Cond.fieldLink RX7 9 RX7 (TX7 0).2.1 (TX7 0).2.2.1 ∈ wT := wT_mem 172 (by decide +kernel) (by decide +kernel)
theorem fl_X7_15 : Cond.fieldLink RX7 15 RX7 (TX7 1).2.1 (TX7 1).2.2.1 ∈ wT := wT_mem 173 (by decide +kernel) (by decide +kernel)
theorem fl_X7_18 : Cond.fieldLink RX7 18 RX7 (TX7 2).2.1 (TX7 2).2.2.1 ∈ wT := wT_mem 174 (by decide +kernel) (by decide +kernel)
theorem fl_X7_22 : Cond.fieldLink RX7 22 RX7 (TX7 3).2.1 (TX7 3).2.2.1 ∈ wT := wT_mem 175 (by decide +kernel) (by decide +kernel)
theorem fl_X7_26 : Cond.fieldLink RX7 26 RX7 (TX7 4).2.1 (TX7 4).2.2.1 ∈ wT := wT_mem 176 (by decide +kernel) (by decide +kernel)
theorem fl_X7_29 : Cond.fieldLink RX7 29 RX7 (TX7 5).2.1 (TX7 5).2.2.1 ∈ wT := wT_mem 177 (by decide +kernel) (by decide +kernel)
theorem fl_X7_33 : Cond.fieldLink RX7 33 RX7 (TX7 6).2.1 (TX7 6).2.2.1 ∈ wT := wT_mem 178 (by decide +kernel) (by decide +kernel)
theorem fl_X7_36 : Cond.fieldLink RX7 36 RX7 (TX7 7).2.1 (TX7 7).2.2.1 ∈ wT := wT_mem 179 (by decide +kernel) (by decide +kernel)
theorem fl_X8_11 : Cond.fieldLink RX8 11 RX8 (TX8 0).2.1 (TX8 0).2.2.1 ∈ wT := wT_mem 199 (by decide +kernel) (by decide +kernel)
theorem fl_X8_18 : Cond.fieldLink RX8 18 RX8 (TX8 1).2.1 (TX8 1).2.2.1 ∈ wT := wT_mem 200 (by decide +kernel) (by decide +kernel)
theorem ml_X10_33 : Cond.methodLink RX10 33 yX6_init ∈ wT := wT_mem 208 (by decide +kernel) (by decide +kernel)
theorem ml_X6_11 : Cond.methodLink RX6 11 yX1_init ∈ wT := wT_mem 214 (by decide +kernel) (by decide +kernel)
theorem fl_X1_11 : Cond.fieldLink RX1 11 RX1 (TX1 0).2.1 (TX1 0).2.2.1 ∈ wT := wT_mem 218 (by decide +kernel) (by decide +kernel)
theorem fl_X1_15 : Cond.fieldLink RX1 15 RX1 (TX1 1).2.1 (TX1 1).2.2.1 ∈ wT := wT_mem 219 (by decide +kernel) (by decide +kernel)
theorem fl_X1_18 : Cond.fieldLink RX1 18 RX1 (TX1 2).2.1 (TX1 2).2.2.1 ∈ wT := wT_mem 220 (by decide +kernel) (by decide +kernel)
theorem ml_X6_42 : Cond.methodLink RX6 42 yX6_clear ∈ wT := wT_mem 228 (by decide +kernel) (by decide +kernel)
theorem ml_X6_46 : Cond.methodLink RX6 46 yX1_clear ∈ wT := wT_mem 232 (by decide +kernel) (by decide +kernel)
theorem fl_X6_12 : Cond.fieldLink RX6 12 RX6 (TX6 0).2.1 (TX6 0).2.2.1 ∈ wT := wT_mem 236 (by decide +kernel) (by decide +kernel)
theorem fl_X0_72 : Cond.fieldLink RX0 72 RX6 (TX6 0).2.1 (TX6 0).2.2.1 ∈ wT := wT_mem 237 (by decide +kernel) (by decide +kernel)
theorem fl_X4_95 : Cond.fieldLink RX4 95 RX6 (TX6 0).2.1 (TX6 0).2.2.1 ∈ wT := wT_mem 238 (by decide +kernel) (by decide +kernel)
theorem fl_X3_122 : Cond.fieldLink RX3 122 RX6 (TX6 0).2.1 (TX6 0).2.2.1 ∈ wT := wT_mem 239 (by decide +kernel) (by decide +kernel)
theorem fl_X6_18 : Cond.fieldLink RX6 18 RX6 (TX6 1).2.1 (TX6 1).2.2.1 ∈ wT := wT_mem 240 (by decide +kernel) (by decide +kernel)
theorem fl_X0_48 : Cond.fieldLink RX0 48 RX6 (TX6 1).2.1 (TX6 1).2.2.1 ∈ wT := wT_mem 241 (by decide +kernel) (by decide +kernel)
theorem fl_X3_61 : Cond.fieldLink RX3 61 RX6 (TX6 1).2.1 (TX6 1).2.2.1 ∈ wT := wT_mem 242 (by decide +kernel) (by decide +kernel)
theorem fl_X6_22 : Cond.fieldLink RX6 22 RX6 (TX6 2).2.1 (TX6 2).2.2.1 ∈ wT := wT_mem 243 (by decide +kernel) (by decide +kernel)
theorem fl_X0_57 : Cond.fieldLink RX0 57 RX6 (TX6 2).2.1 (TX6 2).2.2.1 ∈ wT := wT_mem 244 (by decide +kernel) (by decide +kernel)
theorem fl_X3_64 : Cond.fieldLink RX3 64 RX6 (TX6 2).2.1 (TX6 2).2.2.1 ∈ wT := wT_mem 245 (by decide +kernel) (by decide +kernel)
theorem fl_X6_25 : Cond.fieldLink RX6 25 RX6 (TX6 3).2.1 (TX6 3).2.2.1 ∈ wT := wT_mem 246 (by decide +kernel) (by decide +kernel)
theorem fl_X3_58 : Cond.fieldLink RX3 58 RX6 (TX6 3).2.1 (TX6 3).2.2.1 ∈ wT := wT_mem 247 (by decide +kernel) (by decide +kernel)
theorem fl_X0_95 : Cond.fieldLink RX0 95 RX6 (TX6 3).2.1 (TX6 3).2.2.1 ∈ wT := wT_mem 248 (by decide +kernel) (by decide +kernel)
theorem fl_X6_28 : Cond.fieldLink RX6 28 RX6 (TX6 4).2.1 (TX6 4).2.2.1 ∈ wT := wT_mem 249 (by decide +kernel) (by decide +kernel)
theorem fl_X3_54 : Cond.fieldLink RX3 54 RX6 (TX6 4).2.1 (TX6 4).2.2.1 ∈ wT := wT_mem 250 (by decide +kernel) (by decide +kernel)
theorem fl_X0_107 : Cond.fieldLink RX0 107 RX6 (TX6 4).2.1 (TX6 4).2.2.1 ∈ wT := wT_mem 251 (by decide +kernel) (by decide +kernel)
theorem fl_X6_31 : Cond.fieldLink RX6 31 RX6 (TX6 5).2.1 (TX6 5).2.2.1 ∈ wT := wT_mem 252 (by decide +kernel) (by decide +kernel)
theorem fl_X3_67 : Cond.fieldLink RX3 67 RX6 (TX6 5).2.1 (TX6 5).2.2.1 ∈ wT := wT_mem 253 (by decide +kernel) (by decide +kernel)
theorem fl_X6_34 : Cond.fieldLink RX6 34 RX6 (TX6 6).2.1 (TX6 6).2.2.1 ∈ wT := wT_mem 254 (by decide +kernel) (by decide +kernel)
theorem fl_X0_131 : Cond.fieldLink RX0 131 RX6 (TX6 6).2.1 (TX6 6).2.2.1 ∈ wT := wT_mem 255 (by decide +kernel) (by decide +kernel)
theorem fl_X3_101 : Cond.fieldLink RX3 101 RX6 (TX6 6).2.1 (TX6 6).2.2.1 ∈ wT := wT_mem 256 (by decide +kernel) (by decide +kernel)
theorem fl_X6_37 : Cond.fieldLink RX6 37 RX6 (TX6 7).2.1 (TX6 7).2.2.1 ∈ wT := wT_mem 257 (by decide +kernel) (by decide +kernel)
theorem fl_X0_125 : Cond.fieldLink RX0 125 RX6 (TX6 7).2.1 (TX6 7).2.2.1 ∈ wT := wT_mem 258 (by decide +kernel) (by decide +kernel)
theorem fl_X3_78 : Cond.fieldLink RX3 78 RX6 (TX6 7).2.1 (TX6 7).2.2.1 ∈ wT := wT_mem 259 (by decide +kernel) (by decide +kernel)
theorem fl_X6_48 : Cond.fieldLink RX6 48 RX6 (TX6 8).2.1 (TX6 8).2.2.1 ∈ wT := wT_mem 260 (by decide +kernel) (by decide +kernel)
theorem fl_X0_34 : Cond.fieldLink RX0 34 RX6 (TX6 8).2.1 (TX6 8).2.2.1 ∈ wT := wT_mem 261 (by decide +kernel) (by decide +kernel)
theorem fl_X3_24 : Cond.fieldLink RX3 24 RX6 (TX6 8).2.1 (TX6 8).2.2.1 ∈ wT := wT_mem 262 (by decide +kernel) (by decide +kernel)
theorem fl_X4_35 : Cond.fieldLink RX4 35 RX6 (TX6 8).2.1 (TX6 8).2.2.1 ∈ wT := wT_mem 263 (by decide +kernel) (by decide +kernel)
theorem fl_X6_52 : Cond.fieldLink RX6 52 RX6 (TX6 9).2.1 (TX6 9).2.2.1 ∈ wT := wT_mem 264 (by decide +kernel) (by decide +kernel)
theorem fl_X0_45 : Cond.fieldLink RX0 45 RX6 (TX6 9).2.1 (TX6 9).2.2.1 ∈ wT := wT_mem 265 (by decide +kernel) (by decide +kernel)
theorem fl_X3_113 : Cond.fieldLink RX3 113 RX6 (TX6 9).2.1 (TX6 9).2.2.1 ∈ wT := wT_mem 266 (by decide +kernel) (by decide +kernel)
theorem fl_X6_55 : Cond.fieldLink RX6 55 RX6 (TX6 10).2.1 (TX6 10).2.2.1 ∈ wT := wT_mem 267 (by decide +kernel) (by decide +kernel)
theorem fl_X3_51 : Cond.fieldLink RX3 51 RX6 (TX6 10).2.1 (TX6 10).2.2.1 ∈ wT := wT_mem 268 (by decide +kernel) (by decide +kernel)
theorem fl_X0_92 : Cond.fieldLink RX0 92 RX6 (TX6 10).2.1 (TX6 10).2.2.1 ∈ wT := wT_mem 269 (by decide +kernel) (by decide +kernel)
theorem fl_X6_58 : Cond.fieldLink RX6 58 RX6 (TX6 11).2.1 (TX6 11).2.2.1 ∈ wT := wT_mem 270 (by decide +kernel) (by decide +kernel)
theorem fl_X0_116 : Cond.fieldLink RX0 116 RX6 (TX6 11).2.1 (TX6 11).2.2.1 ∈ wT := wT_mem 271 (by decide +kernel) (by decide +kernel)
theorem fl_X4_92 : Cond.fieldLink RX4 92 RX6 (TX6 11).2.1 (TX6 11).2.2.1 ∈ wT := wT_mem 272 (by decide +kernel) (by decide +kernel)
theorem fl_X6_61 : Cond.fieldLink RX6 61 RX6 (TX6 12).2.1 (TX6 12).2.2.1 ∈ wT := wT_mem 273 (by decide +kernel) (by decide +kernel)
theorem fl_X0_122 : Cond.fieldLink RX0 122 RX6 (TX6 12).2.1 (TX6 12).2.2.1 ∈ wT := wT_mem 274 (by decide +kernel) (by decide +kernel)
theorem fl_X3_84 : Cond.fieldLink RX3 84 RX6 (TX6 12).2.1 (TX6 12).2.2.1 ∈ wT := wT_mem 275 (by decide +kernel) (by decide +kernel)
theorem fl_X6_64 : Cond.fieldLink RX6 64 RX6 (TX6 13).2.1 (TX6 13).2.2.1 ∈ wT := wT_mem 276 (by decide +kernel) (by decide +kernel)
theorem fl_X0_69 : Cond.fieldLink RX0 69 RX6 (TX6 13).2.1 (TX6 13).2.2.1 ∈ wT := wT_mem 277 (by decide +kernel) (by decide +kernel)
theorem fl_X4_105 : Cond.fieldLink RX4 105 RX6 (TX6 13).2.1 (TX6 13).2.2.1 ∈ wT := wT_mem 278 (by decide +kernel) (by decide +kernel)
theorem fl_X3_119 : Cond.fieldLink RX3 119 RX6 (TX6 13).2.1 (TX6 13).2.2.1 ∈ wT := wT_mem 279 (by decide +kernel) (by decide +kernel)
theorem fl_X6_67 : Cond.fieldLink RX6 67 RX6 (TX6 14).2.1 (TX6 14).2.2.1 ∈ wT := wT_mem 280 (by decide +kernel) (by decide +kernel)
theorem fl_X0_137 : Cond.fieldLink RX0 137 RX6 (TX6 14).2.1 (TX6 14).2.2.1 ∈ wT := wT_mem 281 (by decide +kernel) (by decide +kernel)
theorem fl_X4_111 : Cond.fieldLink RX4 111 RX6 (TX6 14).2.1 (TX6 14).2.2.1 ∈ wT := wT_mem 282 (by decide +kernel) (by decide +kernel)
theorem fl_X6_70 : Cond.fieldLink RX6 70 RX6 (TX6 15).2.1 (TX6 15).2.2.1 ∈ wT := wT_mem 283 (by decide +kernel) (by decide +kernel)
theorem fl_X0_143 : Cond.fieldLink RX0 143 RX6 (TX6 15).2.1 (TX6 15).2.2.1 ∈ wT := wT_mem 284 (by decide +kernel) (by decide +kernel)
theorem fl_X3_106 : Cond.fieldLink RX3 106 RX6 (TX6 15).2.1 (TX6 15).2.2.1 ∈ wT := wT_mem 285 (by decide +kernel) (by decide +kernel)
theorem fl_X4_117 : Cond.fieldLink RX4 117 RX6 (TX6 15).2.1 (TX6 15).2.2.1 ∈ wT := wT_mem 286 (by decide +kernel) (by decide +kernel)
theorem fl_X6_73 : Cond.fieldLink RX6 73 RX6 (TX6 16).2.1 (TX6 16).2.2.1 ∈ wT := wT_mem 287 (by decide +kernel) (by decide +kernel)
theorem fl_X3_109 : Cond.fieldLink RX3 109 RX6 (TX6 16).2.1 (TX6 16).2.2.1 ∈ wT := wT_mem 288 (by decide +kernel) (by decide +kernel)
theorem fl_X4_120 : Cond.fieldLink RX4 120 RX6 (TX6 16).2.1 (TX6 16).2.2.1 ∈ wT := wT_mem 289 (by decide +kernel) (by decide +kernel)
theorem ml_X10_36 : Cond.methodLink RX10 36 yX1_init ∈ wT := wT_mem 326 (by decide +kernel) (by decide +kernel)
theorem ml_X10_39 : Cond.methodLink RX10 39 yX4_init ∈ wT := wT_mem 329 (by decide +kernel) (by decide +kernel)
theorem fl_X4_9 : Cond.fieldLink RX4 9 RX4 (TX4 0).2.1 (TX4 0).2.2.1 ∈ wT := wT_mem 333 (by decide +kernel) (by decide +kernel)
theorem fl_X4_15 : Cond.fieldLink RX4 15 RX4 (TX4 1).2.1 (TX4 1).2.2.1 ∈ wT := wT_mem 334 (by decide +kernel) (by decide +kernel)
theorem fl_X4_19 : Cond.fieldLink RX4 19 RX4 (TX4 2).2.1 (TX4 2).2.2.1 ∈ wT := wT_mem 335 (by decide +kernel) (by decide +kernel)
theorem ml_X10_48 : Cond.methodLink RX10 48 yX0_init ∈ wT := wT_mem 345 (by decide +kernel) (by decide +kernel)
theorem fl_X0_9 : Cond.fieldLink RX0 9 RX0 (TX0 0).2.1 (TX0 0).2.2.1 ∈ wT := wT_mem 349 (by decide +kernel) (by decide +kernel)
theorem fl_X0_15 : Cond.fieldLink RX0 15 RX0 (TX0 1).2.1 (TX0 1).2.2.1 ∈ wT := wT_mem 350 (by decide +kernel) (by decide +kernel)
theorem fl_X0_19 : Cond.fieldLink RX0 19 RX0 (TX0 2).2.1 (TX0 2).2.2.1 ∈ wT := wT_mem 351 (by decide +kernel) (by decide +kernel)
theorem fl_X0_23 : Cond.fieldLink RX0 23 RX0 (TX0 3).2.1 (TX0 3).2.2.1 ∈ wT := wT_mem 352 (by decide +kernel) (by decide +kernel)
theorem fl_X0_27 : Cond.fieldLink RX0 27 RX0 (TX0 4).2.1 (TX0 4).2.2.1 ∈ wT := wT_mem 353 (by decide +kernel) (by decide +kernel)
theorem fl_X0_31 : Cond.fieldLink RX0 31 RX0 (TX0 5).2.1 (TX0 5).2.2.1 ∈ wT := wT_mem 354 (by decide +kernel) (by decide +kernel)
theorem ml_X10_57 : Cond.methodLink RX10 57 yX3_init ∈ wT := wT_mem 370 (by decide +kernel) (by decide +kernel)
theorem fl_X3_9 : Cond.fieldLink RX3 9 RX3 (TX3 0).2.1 (TX3 0).2.2.1 ∈ wT := wT_mem 374 (by decide +kernel) (by decide +kernel)
theorem fl_X3_15 : Cond.fieldLink RX3 15 RX3 (TX3 1).2.1 (TX3 1).2.2.1 ∈ wT := wT_mem 375 (by decide +kernel) (by decide +kernel)
theorem ml_X10_66 : Cond.methodLink RX10 66 yX2_init ∈ wT := wT_mem 383 (by decide +kernel) (by decide +kernel)
theorem ml_X2_25 : Cond.methodLink RX2 25 yX5_init ∈ wT := wT_mem 389 (by decide +kernel) (by decide +kernel)
theorem fl_X5_9 : Cond.fieldLink RX5 9 RX5 (TX5 0).2.1 (TX5 0).2.2.1 ∈ wT := wT_mem 393 (by decide +kernel) (by decide +kernel)
theorem fl_X5_15 : Cond.fieldLink RX5 15 RX5 (TX5 1).2.1 (TX5 1).2.2.1 ∈ wT := wT_mem 394 (by decide +kernel) (by decide +kernel)
theorem fl_X5_19 : Cond.fieldLink RX5 19 RX5 (TX5 2).2.1 (TX5 2).2.2.1 ∈ wT := wT_mem 395 (by decide +kernel) (by decide +kernel)
theorem fl_X5_22 : Cond.fieldLink RX5 22 RX5 (TX5 3).2.1 (TX5 3).2.2.1 ∈ wT := wT_mem 396 (by decide +kernel) (by decide +kernel)
theorem fl_X5_26 : Cond.fieldLink RX5 26 RX5 (TX5 4).2.1 (TX5 4).2.2.1 ∈ wT := wT_mem 397 (by decide +kernel) (by decide +kernel)
theorem ml_X2_33 : Cond.methodLink RX2 33 yX8_tableAt ∈ wT := wT_mem 409 (by decide +kernel) (by decide +kernel)
theorem fl_X2_9 : Cond.fieldLink RX2 9 RX2 (TX2 0).2.1 (TX2 0).2.2.1 ∈ wT := wT_mem 413 (by decide +kernel) (by decide +kernel)
theorem fl_X2_15 : Cond.fieldLink RX2 15 RX2 (TX2 1).2.1 (TX2 1).2.2.1 ∈ wT := wT_mem 414 (by decide +kernel) (by decide +kernel)
theorem fl_X2_19 : Cond.fieldLink RX2 19 RX2 (TX2 2).2.1 (TX2 2).2.2.1 ∈ wT := wT_mem 415 (by decide +kernel) (by decide +kernel)
theorem fl_X2_26 : Cond.fieldLink RX2 26 RX2 (TX2 3).2.1 (TX2 3).2.2.1 ∈ wT := wT_mem 416 (by decide +kernel) (by decide +kernel)
theorem fl_X2_30 : Cond.fieldLink RX2 30 RX2 (TX2 4).2.1 (TX2 4).2.2.1 ∈ wT := wT_mem 417 (by decide +kernel) (by decide +kernel)
theorem fl_X2_39 : Cond.fieldLink RX2 39 RX2 (TX2 5).2.1 (TX2 5).2.2.1 ∈ wT := wT_mem 418 (by decide +kernel) (by decide +kernel)
theorem fl_X2_43 : Cond.fieldLink RX2 43 RX2 (TX2 6).2.1 (TX2 6).2.2.1 ∈ wT := wT_mem 419 (by decide +kernel) (by decide +kernel)
theorem fl_X2_126 : Cond.fieldLink RX2 126 RX2 (TX2 7).2.1 (TX2 7).2.2.1 ∈ wT := wT_mem 420 (by decide +kernel) (by decide +kernel)
theorem fl_X2_135 : Cond.fieldLink RX2 135 RX2 (TX2 8).2.1 (TX2 8).2.2.1 ∈ wT := wT_mem 421 (by decide +kernel) (by decide +kernel)
theorem fl_X2_60 : Cond.fieldLink RX2 60 RX2 (TX2 9).2.1 (TX2 9).2.2.1 ∈ wT := wT_mem 422 (by decide +kernel) (by decide +kernel)
theorem fl_X2_64 : Cond.fieldLink RX2 64 RX2 (TX2 10).2.1 (TX2 10).2.2.1 ∈ wT := wT_mem 423 (by decide +kernel) (by decide +kernel)
theorem fl_X2_67 : Cond.fieldLink RX2 67 RX2 (TX2 11).2.1 (TX2 11).2.2.1 ∈ wT := wT_mem 424 (by decide +kernel) (by decide +kernel)
theorem fl_X2_70 : Cond.fieldLink RX2 70 RX2 (TX2 12).2.1 (TX2 12).2.2.1 ∈ wT := wT_mem 425 (by decide +kernel) (by decide +kernel)
theorem fl_X2_76 : Cond.fieldLink RX2 76 RX2 (TX2 13).2.1 (TX2 13).2.2.1 ∈ wT := wT_mem 426 (by decide +kernel) (by decide +kernel)
theorem fl_X2_46 : Cond.fieldLink RX2 46 RX2 (TX2 14).2.1 (TX2 14).2.2.1 ∈ wT := wT_mem 427 (by decide +kernel) (by decide +kernel)
theorem fl_X2_50 : Cond.fieldLink RX2 50 RX2 (TX2 15).2.1 (TX2 15).2.2.1 ∈ wT := wT_mem 428 (by decide +kernel) (by decide +kernel)
theorem fl_X2_73 : Cond.fieldLink RX2 73 RX2 (TX2 16).2.1 (TX2 16).2.2.1 ∈ wT := wT_mem 429 (by decide +kernel) (by decide +kernel)
theorem fl_X2_54 : Cond.fieldLink RX2 54 RX2 (TX2 17).2.1 (TX2 17).2.2.1 ∈ wT := wT_mem 430 (by decide +kernel) (by decide +kernel)
theorem fl_X10_9 : Cond.fieldLink RX10 9 RX10 (TX10 0).2.1 (TX10 0).2.2.1 ∈ wT := wT_mem 468 (by decide +kernel) (by decide +kernel)
theorem fl_X10_13 : Cond.fieldLink RX10 13 RX10 (TX10 1).2.1 (TX10 1).2.2.1 ∈ wT := wT_mem 469 (by decide +kernel) (by decide +kernel)
theorem fl_X10_20 : Cond.fieldLink RX10 20 RX10 (TX10 2).2.1 (TX10 2).2.2.1 ∈ wT := wT_mem 470 (by decide +kernel) (by decide +kernel)
theorem fl_X10_27 : Cond.fieldLink RX10 27 RX10 (TX10 3).2.1 (TX10 3).2.2.1 ∈ wT := wT_mem 471 (by decide +kernel) (by decide +kernel)
theorem fl_X10_42 : Cond.fieldLink RX10 42 RX10 (TX10 4).2.1 (TX10 4).2.2.1 ∈ wT := wT_mem 472 (by decide +kernel) (by decide +kernel)
theorem fl_X10_51 : Cond.fieldLink RX10 51 RX10 (TX10 5).2.1 (TX10 5).2.2.1 ∈ wT := wT_mem 473 (by decide +kernel) (by decide +kernel)
theorem fl_X10_60 : Cond.fieldLink RX10 60 RX10 (TX10 6).2.1 (TX10 6).2.2.1 ∈ wT := wT_mem 474 (by decide +kernel) (by decide +kernel)
theorem fl_X10_69 : Cond.fieldLink RX10 69 RX10 (TX10 7).2.1 (TX10 7).2.2.1 ∈ wT := wT_mem 475 (by decide +kernel) (by decide +kernel)
theorem ml_X10_73 : Cond.methodLink RX10 73 yX9_split ∈ wT := wT_mem 501 (by decide +kernel) (by decide +kernel)
theorem ml_X9_22 : Cond.methodLink RX9 22 yX9_addWord ∈ wT := wT_mem 505 (by decide +kernel) (by decide +kernel)
theorem ml_X9_26 : Cond.methodLink RX9 26 yX9_isLetter ∈ wT := wT_mem 509 (by decide +kernel) (by decide +kernel)
theorem ml_X9_30 : Cond.methodLink RX9 30 yX9_addLetters ∈ wT := wT_mem 512 (by decide +kernel) (by decide +kernel)
theorem ml_X9_45 : Cond.methodLink RX9 45 yX9_kindOfLetters ∈ wT := wT_mem 516 (by decide +kernel) (by decide +kernel)
theorem ml_X9_68 : Cond.methodLink RX9 68 yX9_isReserved ∈ wT := wT_mem 519 (by decide +kernel) (by decide +kernel)
theorem ml_X9_48 : Cond.methodLink RX9 48 yX9_add ∈ wT := wT_mem 563 (by decide +kernel) (by decide +kernel)
theorem ml_X9_33 : Cond.methodLink RX9 33 yX9_isDigit ∈ wT := wT_mem 567 (by decide +kernel) (by decide +kernel)
theorem ml_X9_36 : Cond.methodLink RX9 36 yX9_addDigits ∈ wT := wT_mem 570 (by decide +kernel) (by decide +kernel)
theorem kl_X9_52 : Cond.constantLong RX9 52 (10) ∈ wT := wT_mem 574 (by decide +kernel) (by decide +kernel)
theorem kl_X9_54 : Cond.constantLong RX9 54 (2147483647) ∈ wT := wT_mem 575 (by decide +kernel) (by decide +kernel)
theorem ml_X9_39 : Cond.methodLink RX9 39 yX9_addText ∈ wT := wT_mem 576 (by decide +kernel) (by decide +kernel)
theorem ml_X9_42 : Cond.methodLink RX9 42 yX9_addSign ∈ wT := wT_mem 580 (by decide +kernel) (by decide +kernel)
theorem ml_X9_56 : Cond.methodLink RX9 56 yX9_kindOfPair ∈ wT := wT_mem 584 (by decide +kernel) (by decide +kernel)
theorem ml_X10_77 : Cond.methodLink RX10 77 yX4_read ∈ wT := wT_mem 654 (by decide +kernel) (by decide +kernel)
theorem ml_X4_23 : Cond.methodLink RX4 23 yX9_kindAt ∈ wT := wT_mem 658 (by decide +kernel) (by decide +kernel)
theorem ml_X4_29 : Cond.methodLink RX4 29 yX6_clear ∈ wT := wT_mem 662 (by decide +kernel) (by decide +kernel)
theorem ml_X4_38 : Cond.methodLink RX4 38 yX4_readTable ∈ wT := wT_mem 663 (by decide +kernel) (by decide +kernel)
theorem ml_X4_64 : Cond.methodLink RX4 64 yX9_contentAt ∈ wT := wT_mem 667 (by decide +kernel) (by decide +kernel)
theorem ml_X4_67 : Cond.methodLink RX4 67 yX6_addTable ∈ wT := wT_mem 671 (by decide +kernel) (by decide +kernel)
theorem ml_X4_42 : Cond.methodLink RX4 42 yX4_take ∈ wT := wT_mem 675 (by decide +kernel) (by decide +kernel)
theorem ml_X4_46 : Cond.methodLink RX4 46 yX4_readParts ∈ wT := wT_mem 679 (by decide +kernel) (by decide +kernel)
theorem ml_X4_70 : Cond.methodLink RX4 70 yX4_readColumn ∈ wT := wT_mem 683 (by decide +kernel) (by decide +kernel)
theorem ml_X4_61 : Cond.methodLink RX4 61 yX4_isNext ∈ wT := wT_mem 687 (by decide +kernel) (by decide +kernel)
theorem ml_X4_79 : Cond.methodLink RX4 79 yX6_addColumn ∈ wT := wT_mem 691 (by decide +kernel) (by decide +kernel)
theorem ml_X4_73 : Cond.methodLink RX4 73 yX4_readValue ∈ wT := wT_mem 695 (by decide +kernel) (by decide +kernel)
theorem ml_X4_83 : Cond.methodLink RX4 83 yX6_addValue ∈ wT := wT_mem 699 (by decide +kernel) (by decide +kernel)
theorem ml_X4_76 : Cond.methodLink RX4 76 yX4_readItem ∈ wT := wT_mem 703 (by decide +kernel) (by decide +kernel)
theorem ml_X4_86 : Cond.methodLink RX4 86 yX4_expression ∈ wT := wT_mem 707 (by decide +kernel) (by decide +kernel)
theorem ml_X4_138 : Cond.methodLink RX4 138 yX4_term ∈ wT := wT_mem 711 (by decide +kernel) (by decide +kernel)
theorem ml_X4_141 : Cond.methodLink RX4 141 yX4_factor ∈ wT := wT_mem 715 (by decide +kernel) (by decide +kernel)
theorem ml_X4_129 : Cond.methodLink RX4 129 yX1_add ∈ wT := wT_mem 719 (by decide +kernel) (by decide +kernel)
theorem ml_X4_114 : Cond.methodLink RX4 114 yX4_readPlace ∈ wT := wT_mem 723 (by decide +kernel) (by decide +kernel)
theorem ml_X4_89 : Cond.methodLink RX4 89 yX6_addItem ∈ wT := wT_mem 727 (by decide +kernel) (by decide +kernel)
theorem ml_X6_77 : Cond.methodLink RX6 77 yX1_end ∈ wT := wT_mem 731 (by decide +kernel) (by decide +kernel)
theorem ml_X4_49 : Cond.methodLink RX4 49 yX4_readWhere ∈ wT := wT_mem 735 (by decide +kernel) (by decide +kernel)
theorem ml_X4_99 : Cond.methodLink RX4 99 yX1_end ∈ wT := wT_mem 739 (by decide +kernel) (by decide +kernel)
theorem ml_X4_108 : Cond.methodLink RX4 108 yX4_condition ∈ wT := wT_mem 740 (by decide +kernel) (by decide +kernel)
theorem ml_X4_124 : Cond.methodLink RX4 124 yX4_both ∈ wT := wT_mem 744 (by decide +kernel) (by decide +kernel)
theorem ml_X4_132 : Cond.methodLink RX4 132 yX4_single ∈ wT := wT_mem 748 (by decide +kernel) (by decide +kernel)
theorem ml_X4_135 : Cond.methodLink RX4 135 yX4_comparisonOf ∈ wT := wT_mem 752 (by decide +kernel) (by decide +kernel)
theorem ml_X4_52 : Cond.methodLink RX4 52 yX4_readAssignment ∈ wT := wT_mem 755 (by decide +kernel) (by decide +kernel)
theorem ml_X4_55 : Cond.methodLink RX4 55 yX4_readGroup ∈ wT := wT_mem 759 (by decide +kernel) (by decide +kernel)
theorem ml_X4_58 : Cond.methodLink RX4 58 yX4_readOrder ∈ wT := wT_mem 763 (by decide +kernel) (by decide +kernel)
theorem ml_X10_81 : Cond.methodLink RX10 81 yX0_check ∈ wT := wT_mem 767 (by decide +kernel) (by decide +kernel)
theorem ml_X0_41 : Cond.methodLink RX0 41 yX0_checkCreate ∈ wT := wT_mem 771 (by decide +kernel) (by decide +kernel)
theorem ml_X0_51 : Cond.methodLink RX0 51 yX8_find ∈ wT := wT_mem 775 (by decide +kernel) (by decide +kernel)
theorem ml_X8_22 : Cond.methodLink RX8 22 yX7_ownName ∈ wT := wT_mem 779 (by decide +kernel) (by decide +kernel)
theorem ml_X0_88 : Cond.methodLink RX0 88 yX8_isFull ∈ wT := wT_mem 783 (by decide +kernel) (by decide +kernel)
theorem ml_X0_60 : Cond.methodLink RX0 60 yX0_checkInsert ∈ wT := wT_mem 787 (by decide +kernel) (by decide +kernel)
theorem ml_X0_98 : Cond.methodLink RX0 98 yX8_tableAt ∈ wT := wT_mem 791 (by decide +kernel) (by decide +kernel)
theorem ml_X0_102 : Cond.methodLink RX0 102 yX7_columnCount ∈ wT := wT_mem 792 (by decide +kernel) (by decide +kernel)
theorem ml_X0_108 : Cond.methodLink RX0 108 yX7_typeOf ∈ wT := wT_mem 796 (by decide +kernel) (by decide +kernel)
theorem ml_X0_111 : Cond.methodLink RX0 111 yX0_clash ∈ wT := wT_mem 800 (by decide +kernel) (by decide +kernel)
theorem ml_X0_115 : Cond.methodLink RX0 115 yX7_isFull ∈ wT := wT_mem 803 (by decide +kernel) (by decide +kernel)
theorem ml_X0_63 : Cond.methodLink RX0 63 yX0_checkItems ∈ wT := wT_mem 807 (by decide +kernel) (by decide +kernel)
theorem ml_X0_128 : Cond.methodLink RX0 128 yX6_itemStart ∈ wT := wT_mem 811 (by decide +kernel) (by decide +kernel)
theorem ml_X0_81 : Cond.methodLink RX0 81 yX0_checkWords ∈ wT := wT_mem 815 (by decide +kernel) (by decide +kernel)
theorem ml_X0_162 : Cond.methodLink RX0 162 yX0_checkWord ∈ wT := wT_mem 819 (by decide +kernel) (by decide +kernel)
theorem ml_X0_153 : Cond.methodLink RX0 153 yX1_operationAt ∈ wT := wT_mem 823 (by decide +kernel) (by decide +kernel)
theorem ml_X0_172 : Cond.methodLink RX0 172 yX0_checkPlace ∈ wT := wT_mem 827 (by decide +kernel) (by decide +kernel)
theorem ml_X0_159 : Cond.methodLink RX0 159 yX1_argumentAt ∈ wT := wT_mem 831 (by decide +kernel) (by decide +kernel)
theorem ml_X0_140 : Cond.methodLink RX0 140 yX0_findPlace ∈ wT := wT_mem 835 (by decide +kernel) (by decide +kernel)
theorem ml_X0_186 : Cond.methodLink RX0 186 yX9_kindAt ∈ wT := wT_mem 839 (by decide +kernel) (by decide +kernel)
theorem ml_X0_189 : Cond.methodLink RX0 189 yX9_contentAt ∈ wT := wT_mem 840 (by decide +kernel) (by decide +kernel)
theorem ml_X0_119 : Cond.methodLink RX0 119 yX7_findColumn ∈ wT := wT_mem 841 (by decide +kernel) (by decide +kernel)
theorem ml_X0_156 : Cond.methodLink RX0 156 yX0_loadOf ∈ wT := wT_mem 845 (by decide +kernel) (by decide +kernel)
theorem ml_X0_182 : Cond.methodLink RX0 182 yX1_change ∈ wT := wT_mem 848 (by decide +kernel) (by decide +kernel)
theorem ml_X0_175 : Cond.methodLink RX0 175 yX0_push ∈ wT := wT_mem 852 (by decide +kernel) (by decide +kernel)
theorem ml_X0_179 : Cond.methodLink RX0 179 yX0_pop ∈ wT := wT_mem 856 (by decide +kernel) (by decide +kernel)
theorem ml_X0_66 : Cond.methodLink RX0 66 yX0_checkAssignment ∈ wT := wT_mem 861 (by decide +kernel) (by decide +kernel)
theorem ml_X0_76 : Cond.methodLink RX0 76 yX1_end ∈ wT := wT_mem 865 (by decide +kernel) (by decide +kernel)
theorem ml_X0_85 : Cond.methodLink RX0 85 yX0_checkTail ∈ wT := wT_mem 866 (by decide +kernel) (by decide +kernel)
theorem ml_X0_134 : Cond.methodLink RX0 134 yX6_isGrouped ∈ wT := wT_mem 870 (by decide +kernel) (by decide +kernel)
theorem ml_X0_146 : Cond.methodLink RX0 146 yX6_aggregateCount ∈ wT := wT_mem 874 (by decide +kernel) (by decide +kernel)
theorem ml_X0_149 : Cond.methodLink RX0 149 yX0_isFirstItem ∈ wT := wT_mem 878 (by decide +kernel) (by decide +kernel)
theorem ml_X10_84 : Cond.methodLink RX10 84 yX3_make ∈ wT := wT_mem 882 (by decide +kernel) (by decide +kernel)
theorem ml_X3_19 : Cond.methodLink RX3 19 yX1_clear ∈ wT := wT_mem 886 (by decide +kernel) (by decide +kernel)
theorem ml_X3_30 : Cond.methodLink RX3 30 yX3_makeCreate ∈ wT := wT_mem 887 (by decide +kernel) (by decide +kernel)
theorem ml_X3_47 : Cond.methodLink RX3 47 yX1_add ∈ wT := wT_mem 891 (by decide +kernel) (by decide +kernel)
theorem ml_X3_33 : Cond.methodLink RX3 33 yX3_makeInsert ∈ wT := wT_mem 892 (by decide +kernel) (by decide +kernel)
theorem ml_X3_36 : Cond.methodLink RX3 36 yX3_makeDelete ∈ wT := wT_mem 896 (by decide +kernel) (by decide +kernel)
theorem ml_X3_70 : Cond.methodLink RX3 70 yX3_startRows ∈ wT := wT_mem 900 (by decide +kernel) (by decide +kernel)
theorem ml_X3_116 : Cond.methodLink RX3 116 yX1_end ∈ wT := wT_mem 904 (by decide +kernel) (by decide +kernel)
theorem ml_X3_81 : Cond.methodLink RX3 81 yX3_copyDraft ∈ wT := wT_mem 905 (by decide +kernel) (by decide +kernel)
theorem ml_X3_129 : Cond.methodLink RX3 129 yX1_operationAt ∈ wT := wT_mem 909 (by decide +kernel) (by decide +kernel)
theorem ml_X3_132 : Cond.methodLink RX3 132 yX1_argumentAt ∈ wT := wT_mem 910 (by decide +kernel) (by decide +kernel)
theorem ml_X3_74 : Cond.methodLink RX3 74 yX3_endRows ∈ wT := wT_mem 911 (by decide +kernel) (by decide +kernel)
theorem ml_X3_125 : Cond.methodLink RX3 125 yX1_change ∈ wT := wT_mem 915 (by decide +kernel) (by decide +kernel)
theorem ml_X3_39 : Cond.methodLink RX3 39 yX3_makeUpdate ∈ wT := wT_mem 916 (by decide +kernel) (by decide +kernel)
theorem ml_X3_42 : Cond.methodLink RX3 42 yX3_makeSelect ∈ wT := wT_mem 920 (by decide +kernel) (by decide +kernel)
theorem ml_X3_87 : Cond.methodLink RX3 87 yX6_aggregateCount ∈ wT := wT_mem 924 (by decide +kernel) (by decide +kernel)
theorem ml_X3_90 : Cond.methodLink RX3 90 yX6_isGrouped ∈ wT := wT_mem 925 (by decide +kernel) (by decide +kernel)
theorem ml_X3_94 : Cond.methodLink RX3 94 yX6_itemStart ∈ wT := wT_mem 926 (by decide +kernel) (by decide +kernel)
theorem ml_X3_98 : Cond.methodLink RX3 98 yX3_collectorOf ∈ wT := wT_mem 927 (by decide +kernel) (by decide +kernel)
theorem ml_X10_87 : Cond.methodLink RX10 87 yX9_wordCount ∈ wT := wT_mem 931 (by decide +kernel) (by decide +kernel)
theorem ml_X10_90 : Cond.methodLink RX10 90 yX2_run ∈ wT := wT_mem 935 (by decide +kernel) (by decide +kernel)
theorem ml_X2_57 : Cond.methodLink RX2 57 yX5_clear ∈ wT := wT_mem 939 (by decide +kernel) (by decide +kernel)
theorem ki_X2_79 : Cond.constant RX2 79 (1000000) ∈ wT := wT_mem 943 (by decide +kernel) (by decide +kernel)
theorem ml_X2_80 : Cond.methodLink RX2 80 yX1_operationAt ∈ wT := wT_mem 944 (by decide +kernel) (by decide +kernel)
theorem ml_X2_86 : Cond.methodLink RX2 86 yX1_argumentAt ∈ wT := wT_mem 945 (by decide +kernel) (by decide +kernel)
theorem ml_X2_89 : Cond.methodLink RX2 89 yX2_step ∈ wT := wT_mem 946 (by decide +kernel) (by decide +kernel)
theorem ml_X2_95 : Cond.methodLink RX2 95 yX2_bring ∈ wT := wT_mem 950 (by decide +kernel) (by decide +kernel)
theorem kl_X2_120 : Cond.constantLong RX2 120 (-4611686018427387904) ∈ wT := wT_mem 954 (by decide +kernel) (by decide +kernel)
theorem ml_X2_122 : Cond.methodLink RX2 122 yX2_push ∈ wT := wT_mem 955 (by decide +kernel) (by decide +kernel)
theorem ml_X2_129 : Cond.methodLink RX2 129 yX7_heldAt ∈ wT := wT_mem 959 (by decide +kernel) (by decide +kernel)
theorem ml_X7_39 : Cond.methodLink RX7 39 yX7_has ∈ wT := wT_mem 963 (by decide +kernel) (by decide +kernel)
theorem kl_X7_43 : Cond.constantLong RX7 43 (-4611686018427387904) ∈ wT := wT_mem 967 (by decide +kernel) (by decide +kernel)
theorem ml_X2_98 : Cond.methodLink RX2 98 yX2_calculate ∈ wT := wT_mem 968 (by decide +kernel) (by decide +kernel)
theorem ml_X2_138 : Cond.methodLink RX2 138 yX2_pop ∈ wT := wT_mem 972 (by decide +kernel) (by decide +kernel)
theorem ml_X2_142 : Cond.methodLink RX2 142 yX2_fail ∈ wT := wT_mem 976 (by decide +kernel) (by decide +kernel)
theorem ml_X2_145 : Cond.methodLink RX2 145 yX2_calculated ∈ wT := wT_mem 980 (by decide +kernel) (by decide +kernel)
theorem ml_X2_149 : Cond.methodLink RX2 149 yX2_fits ∈ wT := wT_mem 983 (by decide +kernel) (by decide +kernel)
theorem kl_X2_239 : Cond.constantLong RX2 239 (-2147483648) ∈ wT := wT_mem 986 (by decide +kernel) (by decide +kernel)
theorem kl_X2_241 : Cond.constantLong RX2 241 (2147483647) ∈ wT := wT_mem 987 (by decide +kernel) (by decide +kernel)
theorem ml_X2_102 : Cond.methodLink RX2 102 yX2_compare ∈ wT := wT_mem 988 (by decide +kernel) (by decide +kernel)
theorem ml_X2_153 : Cond.methodLink RX2 153 yX2_holds ∈ wT := wT_mem 992 (by decide +kernel) (by decide +kernel)
theorem kl_X2_157 : Cond.constantLong RX2 157 (2) ∈ wT := wT_mem 995 (by decide +kernel) (by decide +kernel)
theorem ml_X2_105 : Cond.methodLink RX2 105 yX2_judge ∈ wT := wT_mem 996 (by decide +kernel) (by decide +kernel)
theorem ml_X2_108 : Cond.methodLink RX2 108 yX2_go ∈ wT := wT_mem 1006 (by decide +kernel) (by decide +kernel)
theorem ml_X2_168 : Cond.methodLink RX2 168 yX7_unmark ∈ wT := wT_mem 1010 (by decide +kernel) (by decide +kernel)
theorem ml_X2_171 : Cond.methodLink RX2 171 yX7_rowCount ∈ wT := wT_mem 1014 (by decide +kernel) (by decide +kernel)
theorem ml_X2_111 : Cond.methodLink RX2 111 yX2_collect ∈ wT := wT_mem 1019 (by decide +kernel) (by decide +kernel)
theorem ml_X2_178 : Cond.methodLink RX2 178 yX5_putNext ∈ wT := wT_mem 1023 (by decide +kernel) (by decide +kernel)
theorem ml_X2_182 : Cond.methodLink RX2 182 yX5_append ∈ wT := wT_mem 1027 (by decide +kernel) (by decide +kernel)
theorem ml_X2_185 : Cond.methodLink RX2 185 yX2_startGroup ∈ wT := wT_mem 1031 (by decide +kernel) (by decide +kernel)
theorem ml_X2_202 : Cond.methodLink RX2 202 yX5_rowCount ∈ wT := wT_mem 1035 (by decide +kernel) (by decide +kernel)
theorem ml_X2_203 : Cond.methodLink RX2 203 yX5_appendMissing ∈ wT := wT_mem 1039 (by decide +kernel) (by decide +kernel)
theorem kl_X5_33 : Cond.constantLong RX5 33 (-4611686018427387904) ∈ wT := wT_mem 1043 (by decide +kernel) (by decide +kernel)
theorem ml_X5_35 : Cond.methodLink RX5 35 yX5_putNext ∈ wT := wT_mem 1044 (by decide +kernel) (by decide +kernel)
theorem ml_X5_39 : Cond.methodLink RX5 39 yX5_append ∈ wT := wT_mem 1045 (by decide +kernel) (by decide +kernel)
theorem ml_X2_188 : Cond.methodLink RX2 188 yX2_findGroup ∈ wT := wT_mem 1046 (by decide +kernel) (by decide +kernel)
theorem ml_X2_195 : Cond.methodLink RX2 195 yX5_findFirstItem ∈ wT := wT_mem 1050 (by decide +kernel) (by decide +kernel)
theorem ml_X5_42 : Cond.methodLink RX5 42 yX5_heldAt ∈ wT := wT_mem 1054 (by decide +kernel) (by decide +kernel)
theorem ml_X5_29 : Cond.methodLink RX5 29 yX5_isInside ∈ wT := wT_mem 1058 (by decide +kernel) (by decide +kernel)
theorem ml_X2_199 : Cond.methodLink RX2 199 yX5_set ∈ wT := wT_mem 1062 (by decide +kernel) (by decide +kernel)
theorem ml_X2_191 : Cond.methodLink RX2 191 yX2_gather ∈ wT := wT_mem 1066 (by decide +kernel) (by decide +kernel)
theorem ml_X2_206 : Cond.methodLink RX2 206 yX5_heldAt ∈ wT := wT_mem 1070 (by decide +kernel) (by decide +kernel)
theorem ml_X2_114 : Cond.methodLink RX2 114 yX2_finishRows ∈ wT := wT_mem 1071 (by decide +kernel) (by decide +kernel)
theorem ml_X2_207 : Cond.methodLink RX2 207 yX2_endCounts ∈ wT := wT_mem 1075 (by decide +kernel) (by decide +kernel)
theorem ml_X2_210 : Cond.methodLink RX2 210 yX2_endSums ∈ wT := wT_mem 1079 (by decide +kernel) (by decide +kernel)
theorem ml_X2_213 : Cond.methodLink RX2 213 yX5_sort ∈ wT := wT_mem 1083 (by decide +kernel) (by decide +kernel)
theorem ml_X5_52 : Cond.methodLink RX5 52 yX5_merge ∈ wT := wT_mem 1088 (by decide +kernel) (by decide +kernel)
theorem ml_X5_62 : Cond.methodLink RX5 62 yX5_isBefore ∈ wT := wT_mem 1092 (by decide +kernel) (by decide +kernel)
theorem ml_X2_217 : Cond.methodLink RX2 217 yX2_show ∈ wT := wT_mem 1099 (by decide +kernel) (by decide +kernel)
theorem ml_X2_220 : Cond.methodLink RX2 220 yX5_setItemCount ∈ wT := wT_mem 1103 (by decide +kernel) (by decide +kernel)
theorem ml_X2_117 : Cond.methodLink RX2 117 yX2_changeTables ∈ wT := wT_mem 1107 (by decide +kernel) (by decide +kernel)
theorem ml_X2_223 : Cond.methodLink RX2 223 yX7_mark ∈ wT := wT_mem 1111 (by decide +kernel) (by decide +kernel)
theorem ml_X2_226 : Cond.methodLink RX2 226 yX7_dropMarked ∈ wT := wT_mem 1115 (by decide +kernel) (by decide +kernel)
theorem ml_X2_229 : Cond.methodLink RX2 229 yX7_changeMarked ∈ wT := wT_mem 1120 (by decide +kernel) (by decide +kernel)
theorem ml_X2_232 : Cond.methodLink RX2 232 yX7_putNext ∈ wT := wT_mem 1124 (by decide +kernel) (by decide +kernel)
theorem ml_X2_233 : Cond.methodLink RX2 233 yX7_append ∈ wT := wT_mem 1128 (by decide +kernel) (by decide +kernel)
theorem ml_X2_234 : Cond.methodLink RX2 234 yX8_addNextColumn ∈ wT := wT_mem 1132 (by decide +kernel) (by decide +kernel)
theorem ml_X8_26 : Cond.methodLink RX8 26 yX7_addColumn ∈ wT := wT_mem 1136 (by decide +kernel) (by decide +kernel)
theorem ml_X2_237 : Cond.methodLink RX2 237 yX8_append ∈ wT := wT_mem 1140 (by decide +kernel) (by decide +kernel)
theorem ml_X8_30 : Cond.methodLink RX8 30 yX7_setName ∈ wT := wT_mem 1144 (by decide +kernel) (by decide +kernel)
theorem kl_X2_93 : Cond.constantLong RX2 93 (400) ∈ wT := wT_mem 1148 (by decide +kernel) (by decide +kernel)
theorem ml_X10_94 : Cond.methodLink RX10 94 yX2_result ∈ wT := wT_mem 1154 (by decide +kernel) (by decide +kernel)
theorem ml_X10_98 : Cond.methodLink RX10 98 yX5_rowCount ∈ wT := wT_mem 1158 (by decide +kernel) (by decide +kernel)
theorem ml_X10_103 : Cond.methodLink RX10 103 yX5_itemCount ∈ wT := wT_mem 1163 (by decide +kernel) (by decide +kernel)
theorem ml_X10_106 : Cond.methodLink RX10 106 yX5_has ∈ wT := wT_mem 1171 (by decide +kernel) (by decide +kernel)
theorem ml_X10_110 : Cond.methodLink RX10 110 yX5_heldAt ∈ wT := wT_mem 1175 (by decide +kernel) (by decide +kernel)
theorem ml_X10_114 : Cond.methodLink RX10 114 yX10_shown ∈ wT := wT_mem 1176 (by decide +kernel) (by decide +kernel)
theorem kl_X10_118 : Cond.constantLong RX10 118 (-4611686018427387904) ∈ wT := wT_mem 1179 (by decide +kernel) (by decide +kernel)
theorem ml_X10_120 : Cond.methodLink RX10 120 yX8_has ∈ wT := wT_mem 1188 (by decide +kernel) (by decide +kernel)
theorem ml_X10_123 : Cond.methodLink RX10 123 yX8_tableAt ∈ wT := wT_mem 1192 (by decide +kernel) (by decide +kernel)
theorem ml_X10_127 : Cond.methodLink RX10 127 yX7_rowCount ∈ wT := wT_mem 1193 (by decide +kernel) (by decide +kernel)
theorem ml_X10_130 : Cond.methodLink RX10 130 yX7_has ∈ wT := wT_mem 1198 (by decide +kernel) (by decide +kernel)
theorem ml_X10_131 : Cond.methodLink RX10 131 yX7_heldAt ∈ wT := wT_mem 1199 (by decide +kernel) (by decide +kernel)
theorem ml_X10_132 : Cond.methodLink RX10 132 yX2_keptBound ∈ wT := wT_mem 1204 (by decide +kernel) (by decide +kernel)
theorem ml_X10_136 : Cond.methodLink RX10 136 yX2_knewAll ∈ wT := wT_mem 1212 (by decide +kernel) (by decide +kernel)
theorem fl_X11_7 : Cond.fieldLink RX11 7 RX11 (TX11 0).2.1 (TX11 0).2.2.1 ∈ wT := wT_mem 1222 (by decide +kernel) (by decide +kernel)
theorem fl_X11_102 : Cond.fieldLink RX11 102 RX11 (TX11 1).2.1 (TX11 1).2.2.1 ∈ wT := wT_mem 1223 (by decide +kernel) (by decide +kernel)
theorem fl_X11_13 : Cond.fieldLink RX11 13 RX11 (TX11 2).2.1 (TX11 2).2.2.1 ∈ wT := wT_mem 1224 (by decide +kernel) (by decide +kernel)
theorem fl_X11_16 : Cond.fieldLink RX11 16 RX11 (TX11 3).2.1 (TX11 3).2.2.1 ∈ wT := wT_mem 1225 (by decide +kernel) (by decide +kernel)
theorem fl_X11_106 : Cond.fieldLink RX11 106 RX11 (TX11 4).2.1 (TX11 4).2.2.1 ∈ wT := wT_mem 1226 (by decide +kernel) (by decide +kernel)
theorem fl_X11_172 : Cond.fieldLink RX11 172 RX11 (TX11 5).2.1 (TX11 5).2.2.1 ∈ wT := wT_mem 1227 (by decide +kernel) (by decide +kernel)
theorem fl_X11_169 : Cond.fieldLink RX11 169 RX11 (TX11 6).2.1 (TX11 6).2.2.1 ∈ wT := wT_mem 1228 (by decide +kernel) (by decide +kernel)
theorem fl_X11_178 : Cond.fieldLink RX11 178 RX11 (TX11 7).2.1 (TX11 7).2.2.1 ∈ wT := wT_mem 1229 (by decide +kernel) (by decide +kernel)
theorem fl_X11_20 : Cond.fieldLink RX11 20 RX11 (TX11 8).2.1 (TX11 8).2.2.1 ∈ wT := wT_mem 1230 (by decide +kernel) (by decide +kernel)
theorem fl_X11_23 : Cond.fieldLink RX11 23 RX11 (TX11 9).2.1 (TX11 9).2.2.1 ∈ wT := wT_mem 1231 (by decide +kernel) (by decide +kernel)
theorem fl_X11_26 : Cond.fieldLink RX11 26 RX11 (TX11 10).2.1 (TX11 10).2.2.1 ∈ wT := wT_mem 1232 (by decide +kernel) (by decide +kernel)
theorem fl_X11_29 : Cond.fieldLink RX11 29 RX11 (TX11 11).2.1 (TX11 11).2.2.1 ∈ wT := wT_mem 1233 (by decide +kernel) (by decide +kernel)
theorem fl_X11_32 : Cond.fieldLink RX11 32 RX11 (TX11 12).2.1 (TX11 12).2.2.1 ∈ wT := wT_mem 1234 (by decide +kernel) (by decide +kernel)
theorem fl_X11_35 : Cond.fieldLink RX11 35 RX11 (TX11 13).2.1 (TX11 13).2.2.1 ∈ wT := wT_mem 1235 (by decide +kernel) (by decide +kernel)
theorem fl_X11_38 : Cond.fieldLink RX11 38 RX11 (TX11 14).2.1 (TX11 14).2.2.1 ∈ wT := wT_mem 1236 (by decide +kernel) (by decide +kernel)
theorem fl_X11_175 : Cond.fieldLink RX11 175 RX11 (TX11 15).2.1 (TX11 15).2.2.1 ∈ wT := wT_mem 1237 (by decide +kernel) (by decide +kernel)
theorem fl_X11_216 : Cond.fieldLink RX11 216 RX11 (TX11 16).2.1 (TX11 16).2.2.1 ∈ wT := wT_mem 1238 (by decide +kernel) (by decide +kernel)
theorem fl_X11_41 : Cond.fieldLink RX11 41 RX11 (TX11 17).2.1 (TX11 17).2.2.1 ∈ wT := wT_mem 1239 (by decide +kernel) (by decide +kernel)
theorem fl_X11_44 : Cond.fieldLink RX11 44 RX11 (TX11 18).2.1 (TX11 18).2.2.1 ∈ wT := wT_mem 1240 (by decide +kernel) (by decide +kernel)
theorem fl_X11_47 : Cond.fieldLink RX11 47 RX11 (TX11 19).2.1 (TX11 19).2.2.1 ∈ wT := wT_mem 1241 (by decide +kernel) (by decide +kernel)
theorem fl_X11_50 : Cond.fieldLink RX11 50 RX11 (TX11 20).2.1 (TX11 20).2.2.1 ∈ wT := wT_mem 1242 (by decide +kernel) (by decide +kernel)
theorem fl_X11_54 : Cond.fieldLink RX11 54 RX11 (TX11 21).2.1 (TX11 21).2.2.1 ∈ wT := wT_mem 1243 (by decide +kernel) (by decide +kernel)
theorem fl_X11_57 : Cond.fieldLink RX11 57 RX11 (TX11 22).2.1 (TX11 22).2.2.1 ∈ wT := wT_mem 1244 (by decide +kernel) (by decide +kernel)
theorem fl_X11_60 : Cond.fieldLink RX11 60 RX11 (TX11 23).2.1 (TX11 23).2.2.1 ∈ wT := wT_mem 1245 (by decide +kernel) (by decide +kernel)
theorem fl_X11_222 : Cond.fieldLink RX11 222 RX11 (TX11 24).2.1 (TX11 24).2.2.1 ∈ wT := wT_mem 1246 (by decide +kernel) (by decide +kernel)
theorem fl_X11_63 : Cond.fieldLink RX11 63 RX11 (TX11 25).2.1 (TX11 25).2.2.1 ∈ wT := wT_mem 1247 (by decide +kernel) (by decide +kernel)
theorem fl_X11_66 : Cond.fieldLink RX11 66 RX11 (TX11 26).2.1 (TX11 26).2.2.1 ∈ wT := wT_mem 1248 (by decide +kernel) (by decide +kernel)
theorem fl_X11_69 : Cond.fieldLink RX11 69 RX11 (TX11 27).2.1 (TX11 27).2.2.1 ∈ wT := wT_mem 1249 (by decide +kernel) (by decide +kernel)
theorem fl_X11_219 : Cond.fieldLink RX11 219 RX11 (TX11 28).2.1 (TX11 28).2.2.1 ∈ wT := wT_mem 1250 (by decide +kernel) (by decide +kernel)
theorem fl_X11_242 : Cond.fieldLink RX11 242 RX11 (TX11 29).2.1 (TX11 29).2.2.1 ∈ wT := wT_mem 1251 (by decide +kernel) (by decide +kernel)
theorem fl_X11_302 : Cond.fieldLink RX11 302 RX11 (TX11 30).2.1 (TX11 30).2.2.1 ∈ wT := wT_mem 1252 (by decide +kernel) (by decide +kernel)
theorem fl_X11_305 : Cond.fieldLink RX11 305 RX11 (TX11 31).2.1 (TX11 31).2.2.1 ∈ wT := wT_mem 1253 (by decide +kernel) (by decide +kernel)
theorem fl_X11_72 : Cond.fieldLink RX11 72 RX11 (TX11 32).2.1 (TX11 32).2.2.1 ∈ wT := wT_mem 1254 (by decide +kernel) (by decide +kernel)
theorem fl_X11_75 : Cond.fieldLink RX11 75 RX11 (TX11 33).2.1 (TX11 33).2.2.1 ∈ wT := wT_mem 1255 (by decide +kernel) (by decide +kernel)
theorem fl_X11_277 : Cond.fieldLink RX11 277 RX11 (TX11 34).2.1 (TX11 34).2.2.1 ∈ wT := wT_mem 1256 (by decide +kernel) (by decide +kernel)
theorem fl_X11_78 : Cond.fieldLink RX11 78 RX11 (TX11 35).2.1 (TX11 35).2.2.1 ∈ wT := wT_mem 1257 (by decide +kernel) (by decide +kernel)
theorem fl_X11_81 : Cond.fieldLink RX11 81 RX11 (TX11 36).2.1 (TX11 36).2.2.1 ∈ wT := wT_mem 1258 (by decide +kernel) (by decide +kernel)
theorem fl_X11_84 : Cond.fieldLink RX11 84 RX11 (TX11 37).2.1 (TX11 37).2.2.1 ∈ wT := wT_mem 1259 (by decide +kernel) (by decide +kernel)
theorem fl_X11_87 : Cond.fieldLink RX11 87 RX11 (TX11 38).2.1 (TX11 38).2.2.1 ∈ wT := wT_mem 1260 (by decide +kernel) (by decide +kernel)
theorem fl_X11_90 : Cond.fieldLink RX11 90 RX11 (TX11 39).2.1 (TX11 39).2.2.1 ∈ wT := wT_mem 1261 (by decide +kernel) (by decide +kernel)
theorem fl_X11_271 : Cond.fieldLink RX11 271 RX11 (TX11 40).2.1 (TX11 40).2.2.1 ∈ wT := wT_mem 1262 (by decide +kernel) (by decide +kernel)
theorem fl_X11_93 : Cond.fieldLink RX11 93 RX11 (TX11 41).2.1 (TX11 41).2.2.1 ∈ wT := wT_mem 1263 (by decide +kernel) (by decide +kernel)
theorem fl_X11_96 : Cond.fieldLink RX11 96 RX11 (TX11 42).2.1 (TX11 42).2.2.1 ∈ wT := wT_mem 1264 (by decide +kernel) (by decide +kernel)
theorem fl_X11_99 : Cond.fieldLink RX11 99 RX11 (TX11 43).2.1 (TX11 43).2.2.1 ∈ wT := wT_mem 1265 (by decide +kernel) (by decide +kernel)
theorem ml_X11_319 : Cond.methodLink RX11 319 yX11_cut ∈ wT := wT_mem 1363 (by decide +kernel) (by decide +kernel)
theorem ml_X11_125 : Cond.methodLink RX11 125 yX11_isLetter ∈ wT := wT_mem 1367 (by decide +kernel) (by decide +kernel)
theorem ml_X11_157 : Cond.methodLink RX11 157 yX11_letters ∈ wT := wT_mem 1370 (by decide +kernel) (by decide +kernel)
theorem ml_X11_121 : Cond.methodLink RX11 121 yX11_sign ∈ wT := wT_mem 1374 (by decide +kernel) (by decide +kernel)
theorem ml_X11_129 : Cond.methodLink RX11 129 yX11_reserved ∈ wT := wT_mem 1378 (by decide +kernel) (by decide +kernel)
theorem kl_X11_133 : Cond.constantLong RX11 133 (27) ∈ wT := wT_mem 1385 (by decide +kernel) (by decide +kernel)
theorem kl_X11_135 : Cond.constantLong RX11 135 (97) ∈ wT := wT_mem 1386 (by decide +kernel) (by decide +kernel)
theorem ml_X11_137 : Cond.methodLink RX11 137 yX11_word ∈ wT := wT_mem 1387 (by decide +kernel) (by decide +kernel)
theorem ml_X11_141 : Cond.methodLink RX11 141 yX11_isDigit ∈ wT := wT_mem 1391 (by decide +kernel) (by decide +kernel)
theorem ml_X11_160 : Cond.methodLink RX11 160 yX11_digits ∈ wT := wT_mem 1394 (by decide +kernel) (by decide +kernel)
theorem kl_X11_144 : Cond.constantLong RX11 144 (99999999999) ∈ wT := wT_mem 1398 (by decide +kernel) (by decide +kernel)
theorem kl_X11_146 : Cond.constantLong RX11 146 (10) ∈ wT := wT_mem 1399 (by decide +kernel) (by decide +kernel)
theorem kl_X11_148 : Cond.constantLong RX11 148 (48) ∈ wT := wT_mem 1400 (by decide +kernel) (by decide +kernel)
theorem kl_X11_150 : Cond.constantLong RX11 150 (2147483647) ∈ wT := wT_mem 1401 (by decide +kernel) (by decide +kernel)
theorem ml_X11_163 : Cond.methodLink RX11 163 yX11_quoted ∈ wT := wT_mem 1402 (by decide +kernel) (by decide +kernel)
theorem ml_X11_166 : Cond.methodLink RX11 166 yX11_single ∈ wT := wT_mem 1406 (by decide +kernel) (by decide +kernel)
theorem ml_X11_322 : Cond.methodLink RX11 322 yX11_create ∈ wT := wT_mem 1412 (by decide +kernel) (by decide +kernel)
theorem ml_X11_181 : Cond.methodLink RX11 181 yX11_take ∈ wT := wT_mem 1416 (by decide +kernel) (by decide +kernel)
theorem ml_X11_185 : Cond.methodLink RX11 185 yX11_knot ∈ wT := wT_mem 1420 (by decide +kernel) (by decide +kernel)
theorem ml_X11_189 : Cond.methodLink RX11 189 yX11_is ∈ wT := wT_mem 1424 (by decide +kernel) (by decide +kernel)
theorem ml_X11_255 : Cond.methodLink RX11 255 yX11_ends ∈ wT := wT_mem 1428 (by decide +kernel) (by decide +kernel)
theorem ml_X11_225 : Cond.methodLink RX11 225 yX11_tableOf ∈ wT := wT_mem 1432 (by decide +kernel) (by decide +kernel)
theorem ml_X11_229 : Cond.methodLink RX11 229 yX11_fails ∈ wT := wT_mem 1436 (by decide +kernel) (by decide +kernel)
theorem ml_X11_325 : Cond.methodLink RX11 325 yX11_insert ∈ wT := wT_mem 1440 (by decide +kernel) (by decide +kernel)
theorem ml_X11_259 : Cond.methodLink RX11 259 yX11_lookForTables ∈ wT := wT_mem 1444 (by decide +kernel) (by decide +kernel)
theorem ml_X11_328 : Cond.methodLink RX11 328 yX11_delete ∈ wT := wT_mem 1448 (by decide +kernel) (by decide +kernel)
theorem ml_X11_262 : Cond.methodLink RX11 262 yX11_where ∈ wT := wT_mem 1452 (by decide +kernel) (by decide +kernel)
theorem ml_X11_210 : Cond.methodLink RX11 210 yX11_condition ∈ wT := wT_mem 1456 (by decide +kernel) (by decide +kernel)
theorem ml_X11_213 : Cond.methodLink RX11 213 yX11_both ∈ wT := wT_mem 1460 (by decide +kernel) (by decide +kernel)
theorem ml_X11_207 : Cond.methodLink RX11 207 yX11_singleCondition ∈ wT := wT_mem 1464 (by decide +kernel) (by decide +kernel)
theorem ml_X11_195 : Cond.methodLink RX11 195 yX11_opens ∈ wT := wT_mem 1468 (by decide +kernel) (by decide +kernel)
theorem ml_X11_198 : Cond.methodLink RX11 198 yX11_expression ∈ wT := wT_mem 1472 (by decide +kernel) (by decide +kernel)
theorem ml_X11_204 : Cond.methodLink RX11 204 yX11_term ∈ wT := wT_mem 1476 (by decide +kernel) (by decide +kernel)
theorem ml_X11_201 : Cond.methodLink RX11 201 yX11_factor ∈ wT := wT_mem 1480 (by decide +kernel) (by decide +kernel)
theorem ml_X11_192 : Cond.methodLink RX11 192 yX11_place ∈ wT := wT_mem 1484 (by decide +kernel) (by decide +kernel)
theorem ml_X11_236 : Cond.methodLink RX11 236 yX11_check ∈ wT := wT_mem 1488 (by decide +kernel) (by decide +kernel)
theorem ml_X11_233 : Cond.methodLink RX11 233 yX11_findPlace ∈ wT := wT_mem 1492 (by decide +kernel) (by decide +kernel)
theorem ml_X11_265 : Cond.methodLink RX11 265 yX11_checkDeep ∈ wT := wT_mem 1496 (by decide +kernel) (by decide +kernel)
theorem ml_X11_239 : Cond.methodLink RX11 239 yX11_wants ∈ wT := wT_mem 1500 (by decide +kernel) (by decide +kernel)
theorem ml_X11_268 : Cond.methodLink RX11 268 yX11_holds ∈ wT := wT_mem 1504 (by decide +kernel) (by decide +kernel)
theorem ml_X11_252 : Cond.methodLink RX11 252 yX11_judge ∈ wT := wT_mem 1508 (by decide +kernel) (by decide +kernel)
theorem ml_X11_246 : Cond.methodLink RX11 246 yX11_work ∈ wT := wT_mem 1512 (by decide +kernel) (by decide +kernel)
theorem ml_X11_249 : Cond.methodLink RX11 249 yX11_inBounds ∈ wT := wT_mem 1516 (by decide +kernel) (by decide +kernel)
theorem ml_X11_331 : Cond.methodLink RX11 331 yX11_update ∈ wT := wT_mem 1520 (by decide +kernel) (by decide +kernel)
theorem ml_X11_334 : Cond.methodLink RX11 334 yX11_select ∈ wT := wT_mem 1524 (by decide +kernel) (by decide +kernel)
theorem ml_X11_280 : Cond.methodLink RX11 280 yX11_item ∈ wT := wT_mem 1528 (by decide +kernel) (by decide +kernel)
theorem kl_X11_283 : Cond.constantLong RX11 283 (-1) ∈ wT := wT_mem 1532 (by decide +kernel) (by decide +kernel)
theorem ml_X11_285 : Cond.methodLink RX11 285 yX11_checkGroup ∈ wT := wT_mem 1533 (by decide +kernel) (by decide +kernel)
theorem ml_X11_274 : Cond.methodLink RX11 274 yX11_isAggregate ∈ wT := wT_mem 1537 (by decide +kernel) (by decide +kernel)
theorem ml_X11_288 : Cond.methodLink RX11 288 yX11_gather ∈ wT := wT_mem 1540 (by decide +kernel) (by decide +kernel)
theorem ml_X11_308 : Cond.methodLink RX11 308 yX11_begin ∈ wT := wT_mem 1544 (by decide +kernel) (by decide +kernel)
theorem ml_X11_311 : Cond.methodLink RX11 311 yX11_rowFor ∈ wT := wT_mem 1548 (by decide +kernel) (by decide +kernel)
theorem ml_X11_315 : Cond.methodLink RX11 315 yX11_come ∈ wT := wT_mem 1552 (by decide +kernel) (by decide +kernel)
theorem ml_X11_292 : Cond.methodLink RX11 292 yX11_finish ∈ wT := wT_mem 1556 (by decide +kernel) (by decide +kernel)
theorem ml_X11_295 : Cond.methodLink RX11 295 yX11_goesBefore ∈ wT := wT_mem 1560 (by decide +kernel) (by decide +kernel)
theorem ml_X11_299 : Cond.methodLink RX11 299 yX11_swap ∈ wT := wT_mem 1564 (by decide +kernel) (by decide +kernel)
theorem ml_X11_337 : Cond.methodLink RX11 337 yX11_isThere ∈ wT := wT_mem 1580 (by decide +kernel) (by decide +kernel)
