-- names of the classes, their fields in the order of the tables; by a program of mine (wip/gen/names.py)
abbrev R_Poly : String := "FactorDesk$Poly"
def T_Poly : u_T := fun k => match k with
  | 0 => ("FactorDesk$Poly", "c", "[J", true)
  | _ => ("FactorDesk$Poly", "degree", "I", false)
def t_Poly : Nat → FieldType := fun k => match k with
  | 0 => .array .long
  | _ => .int
theorem n_Poly : ∀ a, a < 2 → ∀ b, b < 2 → a ≠ b → (T_Poly a).2.1 ≠ (T_Poly b).2.1 := by decide +kernel
theorem t_Poly_ok : ∀ k, k < 2 → parseFieldDescriptor (T_Poly k).2.2.1 = some (t_Poly k) := by decide +kernel
theorem i_Poly_e : u_ws R_Poly T_Poly 2 = [115, 117].filterMap (fun i => lw_tbl[i]?) := by decide +kernel
theorem i_Poly_g : (u_ws R_Poly T_Poly 2).all goodWord = true := by decide +kernel
abbrev R_FList : String := "FactorDesk$FactorList"
def T_FList : u_T := fun k => match k with
  | 0 => ("FactorDesk$FactorList", "parts", "[LFactorDesk$Poly;", true)
  | 1 => ("FactorDesk$FactorList", "multiplicities", "[I", true)
  | _ => ("FactorDesk$FactorList", "count", "I", false)
def t_FList : Nat → FieldType := fun k => match k with
  | 0 => .array (.object "FactorDesk$Poly")
  | 1 => .array .int
  | _ => .int
theorem n_FList : ∀ a, a < 3 → ∀ b, b < 3 → a ≠ b → (T_FList a).2.1 ≠ (T_FList b).2.1 := by decide +kernel
theorem t_FList_ok : ∀ k, k < 3 → parseFieldDescriptor (T_FList k).2.2.1 = some (t_FList k) := by decide +kernel
theorem i_FList_e : u_ws R_FList T_FList 3 = [144, 146, 148].filterMap (fun i => lw_tbl[i]?) := by decide +kernel
theorem i_FList_g : (u_ws R_FList T_FList 3).all goodWord = true := by decide +kernel
abbrev R_Divn : String := "FactorDesk$Division"
def T_Divn : u_T := fun k => match k with
  | 0 => ("FactorDesk$Division", "quotient", "LFactorDesk$Poly;", true)
  | _ => ("FactorDesk$Division", "left", "[J", true)
def t_Divn : Nat → FieldType := fun k => match k with
  | 0 => .object "FactorDesk$Poly"
  | _ => .array .long
theorem n_Divn : ∀ a, a < 2 → ∀ b, b < 2 → a ≠ b → (T_Divn a).2.1 ≠ (T_Divn b).2.1 := by decide +kernel
theorem t_Divn_ok : ∀ k, k < 2 → parseFieldDescriptor (T_Divn k).2.2.1 = some (t_Divn k) := by decide +kernel
theorem i_Divn_e : u_ws R_Divn T_Divn 2 = [176, 178].filterMap (fun i => lw_tbl[i]?) := by decide +kernel
theorem i_Divn_g : (u_ws R_Divn T_Divn 2).all goodWord = true := by decide +kernel
abbrev R_Resi : String := "FactorDesk$Residues"
def T_Resi : u_T := fun k => match k with
  | 0 => ("FactorDesk$Residues", "quotient", "LFactorDesk$Poly;", true)
  | 1 => ("FactorDesk$Residues", "modulus", "J", false)
  | 2 => ("FactorDesk$Residues", "chunk", "I", false)
  | 3 => ("FactorDesk$Residues", "chunkMask", "J", false)
  | _ => ("FactorDesk$Residues", "chunks", "I", false)
def t_Resi : Nat → FieldType := fun k => match k with
  | 0 => .object "FactorDesk$Poly"
  | 1 => .long
  | 2 => .int
  | 3 => .long
  | _ => .int
theorem n_Resi : ∀ a, a < 5 → ∀ b, b < 5 → a ≠ b → (T_Resi a).2.1 ≠ (T_Resi b).2.1 := by decide +kernel
theorem t_Resi_ok : ∀ k, k < 5 → parseFieldDescriptor (T_Resi k).2.2.1 = some (t_Resi k) := by decide +kernel
theorem i_Resi_e : u_ws R_Resi T_Resi 5 = [198, 200, 202, 204, 206].filterMap (fun i => lw_tbl[i]?) := by decide +kernel
theorem i_Resi_g : (u_ws R_Resi T_Resi 5).all goodWord = true := by decide +kernel
abbrev R_CDiv : String := "FactorDesk$CommonDivisor"
def T_CDiv : u_T := fun k => match k with
  | 0 => ("FactorDesk$CommonDivisor", "answer", "LFactorDesk$Poly;", true)
  | 1 => ("FactorDesk$CommonDivisor", "division", "LFactorDesk$Division;", true)
  | 2 => ("FactorDesk$CommonDivisor", "residues", "LFactorDesk$Residues;", true)
  | 3 => ("FactorDesk$CommonDivisor", "one", "LFactorDesk$Poly;", true)
  | 4 => ("FactorDesk$CommonDivisor", "two", "LFactorDesk$Poly;", true)
  | 5 => ("FactorDesk$CommonDivisor", "a", "LFactorDesk$Poly;", true)
  | _ => ("FactorDesk$CommonDivisor", "b", "LFactorDesk$Poly;", true)
def t_CDiv : Nat → FieldType := fun k => match k with
  | 0 => .object "FactorDesk$Poly"
  | 1 => .object "FactorDesk$Division"
  | 2 => .object "FactorDesk$Residues"
  | 3 => .object "FactorDesk$Poly"
  | 4 => .object "FactorDesk$Poly"
  | 5 => .object "FactorDesk$Poly"
  | _ => .object "FactorDesk$Poly"
theorem n_CDiv : ∀ a, a < 7 → ∀ b, b < 7 → a ≠ b → (T_CDiv a).2.1 ≠ (T_CDiv b).2.1 := by decide +kernel
theorem t_CDiv_ok : ∀ k, k < 7 → parseFieldDescriptor (T_CDiv k).2.2.1 = some (t_CDiv k) := by decide +kernel
theorem i_CDiv_e : u_ws R_CDiv T_CDiv 7 = [221, 223, 225, 227, 229, 231, 233].filterMap (fun i => lw_tbl[i]?) := by decide +kernel
theorem i_CDiv_g : (u_ws R_CDiv T_CDiv 7).all goodWord = true := by decide +kernel
abbrev R_MSpl : String := "FactorDesk$ModularSplit"
def T_MSpl : u_T := fun k => match k with
  | 0 => ("FactorDesk$ModularSplit", "residues", "LFactorDesk$Residues;", true)
  | 1 => ("FactorDesk$ModularSplit", "pieces", "[LFactorDesk$Poly;", true)
  | 2 => ("FactorDesk$ModularSplit", "monic", "LFactorDesk$Poly;", true)
  | 3 => ("FactorDesk$ModularSplit", "count", "I", false)
  | 4 => ("FactorDesk$ModularSplit", "prime", "I", false)
  | 5 => ("FactorDesk$ModularSplit", "wanted", "I", false)
  | 6 => ("FactorDesk$ModularSplit", "matrix", "[[J", true)
  | 7 => ("FactorDesk$ModularSplit", "pivotRow", "[I", true)
  | 8 => ("FactorDesk$ModularSplit", "kernel", "LFactorDesk$Poly;", true)
  | 9 => ("FactorDesk$ModularSplit", "a", "LFactorDesk$Poly;", true)
  | _ => ("FactorDesk$ModularSplit", "b", "LFactorDesk$Poly;", true)
def t_MSpl : Nat → FieldType := fun k => match k with
  | 0 => .object "FactorDesk$Residues"
  | 1 => .array (.object "FactorDesk$Poly")
  | 2 => .object "FactorDesk$Poly"
  | 3 => .int
  | 4 => .int
  | 5 => .int
  | 6 => .array (.array .long)
  | 7 => .array .int
  | 8 => .object "FactorDesk$Poly"
  | 9 => .object "FactorDesk$Poly"
  | _ => .object "FactorDesk$Poly"
theorem n_MSpl : ∀ a, a < 11 → ∀ b, b < 11 → a ≠ b → (T_MSpl a).2.1 ≠ (T_MSpl b).2.1 := by decide +kernel
theorem t_MSpl_ok : ∀ k, k < 11 → parseFieldDescriptor (T_MSpl k).2.2.1 = some (t_MSpl k) := by decide +kernel
theorem i_MSpl_e : u_ws R_MSpl T_MSpl 11 = [272, 274, 276, 278, 280, 282, 284, 286, 288, 290, 292].filterMap (fun i => lw_tbl[i]?) := by decide +kernel
theorem i_MSpl_g : (u_ws R_MSpl T_MSpl 11).all goodWord = true := by decide +kernel
abbrev R_Lift : String := "FactorDesk$Lift"
def T_Lift : u_T := fun k => match k with
  | 0 => ("FactorDesk$Lift", "split", "LFactorDesk$ModularSplit;", true)
  | 1 => ("FactorDesk$Lift", "residues", "LFactorDesk$Residues;", true)
  | 2 => ("FactorDesk$Lift", "pieces", "[LFactorDesk$Poly;", true)
  | 3 => ("FactorDesk$Lift", "inverses", "[LFactorDesk$Poly;", true)
  | 4 => ("FactorDesk$Lift", "target", "LFactorDesk$Poly;", true)
  | 5 => ("FactorDesk$Lift", "error", "LFactorDesk$Poly;", true)
  | 6 => ("FactorDesk$Lift", "work", "LFactorDesk$Poly;", true)
  | 7 => ("FactorDesk$Lift", "one", "LFactorDesk$Poly;", false)
  | 8 => ("FactorDesk$Lift", "two", "LFactorDesk$Poly;", false)
  | 9 => ("FactorDesk$Lift", "oneTimes", "LFactorDesk$Poly;", false)
  | _ => ("FactorDesk$Lift", "twoTimes", "LFactorDesk$Poly;", false)
def t_Lift : Nat → FieldType := fun k => match k with
  | 0 => .object "FactorDesk$ModularSplit"
  | 1 => .object "FactorDesk$Residues"
  | 2 => .array (.object "FactorDesk$Poly")
  | 3 => .array (.object "FactorDesk$Poly")
  | 4 => .object "FactorDesk$Poly"
  | 5 => .object "FactorDesk$Poly"
  | 6 => .object "FactorDesk$Poly"
  | 7 => .object "FactorDesk$Poly"
  | 8 => .object "FactorDesk$Poly"
  | 9 => .object "FactorDesk$Poly"
  | _ => .object "FactorDesk$Poly"
theorem n_Lift : ∀ a, a < 11 → ∀ b, b < 11 → a ≠ b → (T_Lift a).2.1 ≠ (T_Lift b).2.1 := by decide +kernel
theorem t_Lift_ok : ∀ k, k < 11 → parseFieldDescriptor (T_Lift k).2.2.1 = some (t_Lift k) := by decide +kernel
theorem i_Lift_e : u_ws R_Lift T_Lift 11 = [313, 315, 317, 319, 321, 323, 325, 327, 329, 331, 333].filterMap (fun i => lw_tbl[i]?) := by decide +kernel
theorem i_Lift_g : (u_ws R_Lift T_Lift 11).all goodWord = true := by decide +kernel
abbrev R_Splt : String := "FactorDesk$Splitter"
def T_Splt : u_T := fun k => match k with
  | 0 => ("FactorDesk$Splitter", "found", "LFactorDesk$FactorList;", true)
  | 1 => ("FactorDesk$Splitter", "commonDivisor", "LFactorDesk$CommonDivisor;", true)
  | 2 => ("FactorDesk$Splitter", "division", "LFactorDesk$Division;", true)
  | 3 => ("FactorDesk$Splitter", "known", "Z", false)
  | 4 => ("FactorDesk$Splitter", "lift", "LFactorDesk$Lift;", true)
  | 5 => ("FactorDesk$Splitter", "modular", "LFactorDesk$ModularSplit;", true)
  | 6 => ("FactorDesk$Splitter", "whole", "LFactorDesk$Poly;", true)
  | 7 => ("FactorDesk$Splitter", "rest", "LFactorDesk$Poly;", true)
  | _ => ("FactorDesk$Splitter", "candidate", "LFactorDesk$Poly;", true)
def t_Splt : Nat → FieldType := fun k => match k with
  | 0 => .object "FactorDesk$FactorList"
  | 1 => .object "FactorDesk$CommonDivisor"
  | 2 => .object "FactorDesk$Division"
  | 3 => .boolean
  | 4 => .object "FactorDesk$Lift"
  | 5 => .object "FactorDesk$ModularSplit"
  | 6 => .object "FactorDesk$Poly"
  | 7 => .object "FactorDesk$Poly"
  | _ => .object "FactorDesk$Poly"
theorem n_Splt : ∀ a, a < 9 → ∀ b, b < 9 → a ≠ b → (T_Splt a).2.1 ≠ (T_Splt b).2.1 := by decide +kernel
theorem t_Splt_ok : ∀ k, k < 9 → parseFieldDescriptor (T_Splt k).2.2.1 = some (t_Splt k) := by decide +kernel
theorem i_Splt_e : u_ws R_Splt T_Splt 9 = [350, 352, 354, 356, 358, 360, 362, 364, 366].filterMap (fun i => lw_tbl[i]?) := by decide +kernel
theorem i_Splt_g : (u_ws R_Splt T_Splt 9).all goodWord = true := by decide +kernel
abbrev R_Desk : String := "FactorDesk"
def T_Desk : u_T := fun k => match k with
  | 0 => ("FactorDesk", "tape", "[I", true)
  | 1 => ("FactorDesk", "taped", "I", false)
  | 2 => ("FactorDesk", "polynomial", "LFactorDesk$Poly;", true)
  | 3 => ("FactorDesk", "result", "LFactorDesk$Poly;", true)
  | 4 => ("FactorDesk", "operand", "LFactorDesk$Poly;", true)
  | 5 => ("FactorDesk", "latestDivisor", "LFactorDesk$Poly;", true)
  | 6 => ("FactorDesk", "told", "LFactorDesk$FactorList;", true)
  | 7 => ("FactorDesk", "splitter", "LFactorDesk$Splitter;", true)
  | 8 => ("FactorDesk", "commonDivisor", "LFactorDesk$CommonDivisor;", true)
  | _ => ("FactorDesk", "division", "LFactorDesk$Division;", true)
def t_Desk : Nat → FieldType := fun k => match k with
  | 0 => .array .int
  | 1 => .int
  | 2 => .object "FactorDesk$Poly"
  | 3 => .object "FactorDesk$Poly"
  | 4 => .object "FactorDesk$Poly"
  | 5 => .object "FactorDesk$Poly"
  | 6 => .object "FactorDesk$FactorList"
  | 7 => .object "FactorDesk$Splitter"
  | 8 => .object "FactorDesk$CommonDivisor"
  | _ => .object "FactorDesk$Division"
theorem n_Desk : ∀ a, a < 10 → ∀ b, b < 10 → a ≠ b → (T_Desk a).2.1 ≠ (T_Desk b).2.1 := by decide +kernel
theorem t_Desk_ok : ∀ k, k < 10 → parseFieldDescriptor (T_Desk k).2.2.1 = some (t_Desk k) := by decide +kernel
theorem i_Desk_e : u_ws R_Desk T_Desk 10 = [379, 381, 383, 385, 387, 389, 391, 393, 395, 397].filterMap (fun i => lw_tbl[i]?) := by decide +kernel
theorem i_Desk_g : (u_ws R_Desk T_Desk 10).all goodWord = true := by decide +kernel
abbrev R_Modl : String := "FactorDeskModel"
def T_Modl : u_T := fun k => match k with
  | 0 => ("FactorDeskModel", "thrown", "I", false)
  | 1 => ("FactorDeskModel", "tape", "[J", true)
  | 2 => ("FactorDeskModel", "taped", "I", false)
  | 3 => ("FactorDeskModel", "one", "[J", true)
  | 4 => ("FactorDeskModel", "high", "I", false)
  | 5 => ("FactorDeskModel", "divisor", "[J", true)
  | 6 => ("FactorDeskModel", "divisorDegree", "I", false)
  | 7 => ("FactorDeskModel", "shown", "I", false)
  | 8 => ("FactorDeskModel", "shownPart", "[J", true)
  | 9 => ("FactorDeskModel", "shownDegree", "[I", true)
  | 10 => ("FactorDeskModel", "shownTimes", "[I", true)
  | 11 => ("FactorDeskModel", "found", "I", false)
  | 12 => ("FactorDeskModel", "part", "[J", true)
  | 13 => ("FactorDeskModel", "partDegree", "[I", true)
  | 14 => ("FactorDeskModel", "partTimes", "[I", true)
  | 15 => ("FactorDeskModel", "prime", "I", false)
  | 16 => ("FactorDeskModel", "digits", "I", false)
  | 17 => ("FactorDeskModel", "cells", "[J", true)
  | 18 => ("FactorDeskModel", "deg", "[I", true)
  | 19 => ("FactorDeskModel", "w", "[J", true)
  | 20 => ("FactorDeskModel", "t", "[J", true)
  | 21 => ("FactorDeskModel", "u", "[J", true)
  | 22 => ("FactorDeskModel", "zero", "[J", true)
  | 23 => ("FactorDeskModel", "chance", "J", false)
  | 24 => ("FactorDeskModel", "many", "I", false)
  | 25 => ("FactorDeskModel", "times", "[I", true)
  | 26 => ("FactorDeskModel", "used", "[Z", true)
  | 27 => ("FactorDeskModel", "candidate", "[J", true)
  | 28 => ("FactorDeskModel", "candidateDegree", "I", false)
  | 29 => ("FactorDeskModel", "candidateContent", "J", false)
  | 30 => ("FactorDeskModel", "left", "[J", true)
  | 31 => ("FactorDeskModel", "unit", "[J", true)
  | 32 => ("FactorDeskModel", "minus", "[Z", true)
  | 33 => ("FactorDeskModel", "other", "[J", true)
  | _ => ("FactorDeskModel", "otherContent", "J", false)
def t_Modl : Nat → FieldType := fun k => match k with
  | 0 => .int
  | 1 => .array .long
  | 2 => .int
  | 3 => .array .long
  | 4 => .int
  | 5 => .array .long
  | 6 => .int
  | 7 => .int
  | 8 => .array .long
  | 9 => .array .int
  | 10 => .array .int
  | 11 => .int
  | 12 => .array .long
  | 13 => .array .int
  | 14 => .array .int
  | 15 => .int
  | 16 => .int
  | 17 => .array .long
  | 18 => .array .int
  | 19 => .array .long
  | 20 => .array .long
  | 21 => .array .long
  | 22 => .array .long
  | 23 => .long
  | 24 => .int
  | 25 => .array .int
  | 26 => .array .boolean
  | 27 => .array .long
  | 28 => .int
  | 29 => .long
  | 30 => .array .long
  | 31 => .array .long
  | 32 => .array .boolean
  | 33 => .array .long
  | _ => .long
theorem n_Modl : ∀ a, a < 35 → ∀ b, b < 35 → a ≠ b → (T_Modl a).2.1 ≠ (T_Modl b).2.1 := by decide +kernel
theorem t_Modl_ok : ∀ k, k < 35 → parseFieldDescriptor (T_Modl k).2.2.1 = some (t_Modl k) := by decide +kernel
theorem i_Modl_e : u_ws R_Modl T_Modl 35 = [955, 957, 959, 961, 963, 965, 967, 969, 971, 973, 975, 977, 979, 981, 983, 985, 987, 989, 991, 993, 995, 997, 999, 1001, 1003, 1005, 1007, 1009, 1011, 1013, 1015, 1017, 1019, 1021, 1023].filterMap (fun i => lw_tbl[i]?) := by decide +kernel
theorem i_Modl_g : (u_ws R_Modl T_Modl 35).all goodWord = true := by decide +kernel
abbrev vcl : List vw_C := [(R_Poly, T_Poly, 2), (R_FList, T_FList, 3), (R_Divn, T_Divn, 2), (R_Resi, T_Resi, 5), (R_CDiv, T_CDiv, 7), (R_MSpl, T_MSpl, 11), (R_Lift, T_Lift, 11), (R_Splt, T_Splt, 9), (R_Desk, T_Desk, 10), (R_Modl, T_Modl, 35)]
