/-! places and links behind the constructors, by program -/
def Sc (s : Nat) : Prop := s = 11 ∨ s = 38 ∨ s = 72
def wd (s : Nat) : Nat := if s = 11 then 20 else 12
def RCL : List (List Nat) := [
  [2, 3, 4, 12, 0, 0, 106, 0, 0],
  [],
  [],
  [5, 6, 7, 8, 9, 10, 11, 0, 0, 0],
  [],
  [],
  [],
  [],
  [],
  [],
  [],
  [13, 28, 19, 37, 0, 21, 0],
  [14, 15, 16, 17, 18, 0],
  [],
  [],
  [],
  [],
  [],
  [20, 0, 0, 0, 0, 0, 0, 0, 0, 0, 0, 0, 0, 0, 0, 0],
  [],
  [22, 23, 24, 25, 26, 27, 0],
  [],
  [],
  [],
  [],
  [],
  [],
  [31, 32, 33, 34, 35, 36, 29, 30, 0, 0],
  [],
  [],
  [],
  [],
  [],
  [],
  [],
  [],
  [],
  [39, 65],
  [40, 55, 46, 64, 0, 48, 0],
  [41, 42, 43, 44, 45, 0],
  [],
  [],
  [],
  [],
  [],
  [47, 0, 0, 0, 0, 0, 0, 0, 0, 0, 0, 0, 0, 0, 0, 0],
  [],
  [49, 50, 51, 52, 53, 54, 0],
  [],
  [],
  [],
  [],
  [],
  [],
  [58, 59, 60, 61, 62, 63, 56, 57, 0, 0],
  [],
  [],
  [],
  [],
  [],
  [],
  [],
  [],
  [],
  [66, 67, 68, 69, 70, 71, 0, 0],
  [],
  [],
  [],
  [],
  [],
  [],
  [73, 99],
  [74, 89, 80, 98, 0, 82, 0],
  [75, 76, 77, 78, 79, 0],
  [],
  [],
  [],
  [],
  [],
  [81, 0, 0, 0, 0, 0, 0, 0, 0, 0, 0, 0, 0, 0, 0, 0],
  [],
  [83, 84, 85, 86, 87, 88, 0],
  [],
  [],
  [],
  [],
  [],
  [],
  [92, 93, 94, 95, 96, 97, 90, 91, 0, 0],
  [],
  [],
  [],
  [],
  [],
  [],
  [],
  [],
  [],
  [100, 101, 102, 103, 104, 105, 0, 0],
  [],
  [],
  [],
  [],
  [],
  [],
  [107, 0, 0, 0, 0, 0, 0, 0, 0, 0],
  [108, 109, 110, 111, 112, 0],
  [],
  [],
  [],
  [],
  [],
  [114, 0, 0, 0, 0, 0, 0, 0, 0, 115, 116, 117, 118, 119, 120, 121, 122, 123, 124, 125, 126, 127, 128, 129, 130, 131, 132, 133, 134, 135, 136, 137, 138, 139, 140, 141, 142, 143, 144, 145, 146, 147, 0, 148, 149, 150, 151, 152, 153, 154, 0, 155, 0, 0, 0, 156, 0, 157, 0, 0, 158, 159, 160, 161, 162, 0, 163, 164, 165, 166, 167, 168, 169, 170, 171, 0, 0, 0, 0, 0, 172, 0, 0, 173, 174, 175, 176, 0, 0, 0, 177, 178, 179, 0],
  [],
  [],
  [],
  [],
  [],
  [],
  [],
  [],
  [],
  [],
  [],
  [],
  [],
  [],
  [],
  [],
  [],
  [],
  [],
  [],
  [],
  [],
  [],
  [],
  [],
  [],
  [],
  [],
  [],
  [],
  [],
  [],
  [],
  [],
  [],
  [],
  [],
  [],
  [],
  [],
  [],
  [],
  [],
  [],
  [],
  [],
  [],
  [],
  [],
  [],
  [],
  [],
  [],
  [],
  [],
  [],
  [],
  [],
  [],
  [],
  [],
  [],
  [],
  [],
  [],
  []
]
/-- the links: now and spare are the towns nw and sp, the trial scene has the sorts so, the reader reads into the town ai -/
def RG (nw sp so ai : Nat) : Nat → Nat → Nat := fun p k => if p = 0 ∧ k = 4 then nw + 1 else if p = 0 ∧ k = 5 then sp + 1 else if p = 11 ∧ k = 5 then so + 1 else if p = 105 ∧ k = 1 then ai + 2 else if p = 105 ∧ k = 2 then ai + 11 else if p = 105 ∧ k = 3 then ai + 3 else if p = 105 ∧ k = 4 then ai + 18 else if p = 105 ∧ k = 5 then ai + 28 else (RCL.getD p []).getD k 0
theorem rfv_s (k : Nat) : rfv (k + 1) = .ref k := rfl
theorem sh_s {s : Nat} (h : Sc s) : shp (s) = (0, 5) := by rcases h with rfl | rfl | rfl <;> rfl
theorem lq_s {s : Nat} (h : Sc s) : (s < 179) = True := by rcases h with rfl | rfl | rfl <;> decide
theorem sh_s1 {s : Nat} (h : Sc s) : shp (s + 1) = (0, 1) := by rcases h with rfl | rfl | rfl <;> rfl
theorem lq_s1 {s : Nat} (h : Sc s) : (s + 1 < 179) = True := by rcases h with rfl | rfl | rfl <;> decide
theorem sh_s2 {s : Nat} (h : Sc s) : shp (s + 2) = (1, 4) := by rcases h with rfl | rfl | rfl <;> rfl
theorem lq_s2 {s : Nat} (h : Sc s) : (s + 2 < 179) = True := by rcases h with rfl | rfl | rfl <;> decide
theorem sh_s3 {s : Nat} (h : Sc s) : shp (s + 3) = (1, 4) := by rcases h with rfl | rfl | rfl <;> rfl
theorem lq_s3 {s : Nat} (h : Sc s) : (s + 3 < 179) = True := by rcases h with rfl | rfl | rfl <;> decide
theorem sh_s4 {s : Nat} (h : Sc s) : shp (s + 4) = (1, 4) := by rcases h with rfl | rfl | rfl <;> rfl
theorem lq_s4 {s : Nat} (h : Sc s) : (s + 4 < 179) = True := by rcases h with rfl | rfl | rfl <;> decide
theorem sh_s5 {s : Nat} (h : Sc s) : shp (s + 5) = (1, 4) := by rcases h with rfl | rfl | rfl <;> rfl
theorem lq_s5 {s : Nat} (h : Sc s) : (s + 5 < 179) = True := by rcases h with rfl | rfl | rfl <;> decide
theorem sh_s6 {s : Nat} (h : Sc s) : shp (s + 6) = (1, 4) := by rcases h with rfl | rfl | rfl <;> rfl
theorem lq_s6 {s : Nat} (h : Sc s) : (s + 6 < 179) = True := by rcases h with rfl | rfl | rfl <;> decide
theorem sh_s7 {s : Nat} (h : Sc s) : shp (s + 7) = (0, 0) := by rcases h with rfl | rfl | rfl <;> rfl
theorem lq_s7 {s : Nat} (h : Sc s) : (s + 7 < 179) = True := by rcases h with rfl | rfl | rfl <;> decide
theorem sh_s8 {s : Nat} (h : Sc s) : shp (s + 8) = (1, 20) := by rcases h with rfl | rfl | rfl <;> rfl
theorem lq_s8 {s : Nat} (h : Sc s) : (s + 8 < 179) = True := by rcases h with rfl | rfl | rfl <;> decide
theorem sh_s9 {s : Nat} (h : Sc s) : shp (s + 9) = (0, 6) := by rcases h with rfl | rfl | rfl <;> rfl
theorem lq_s9 {s : Nat} (h : Sc s) : (s + 9 < 179) = True := by rcases h with rfl | rfl | rfl <;> decide
theorem sh_s10 {s : Nat} (h : Sc s) : shp (s + 10) = (1, 6) := by rcases h with rfl | rfl | rfl <;> rfl
theorem lq_s10 {s : Nat} (h : Sc s) : (s + 10 < 179) = True := by rcases h with rfl | rfl | rfl <;> decide
theorem sh_s11 {s : Nat} (h : Sc s) : shp (s + 11) = (1, 6) := by rcases h with rfl | rfl | rfl <;> rfl
theorem lq_s11 {s : Nat} (h : Sc s) : (s + 11 < 179) = True := by rcases h with rfl | rfl | rfl <;> decide
theorem sh_s12 {s : Nat} (h : Sc s) : shp (s + 12) = (1, 6) := by rcases h with rfl | rfl | rfl <;> rfl
theorem lq_s12 {s : Nat} (h : Sc s) : (s + 12 < 179) = True := by rcases h with rfl | rfl | rfl <;> decide
theorem sh_s13 {s : Nat} (h : Sc s) : shp (s + 13) = (1, 6) := by rcases h with rfl | rfl | rfl <;> rfl
theorem lq_s13 {s : Nat} (h : Sc s) : (s + 13 < 179) = True := by rcases h with rfl | rfl | rfl <;> decide
theorem sh_s14 {s : Nat} (h : Sc s) : shp (s + 14) = (1, 6) := by rcases h with rfl | rfl | rfl <;> rfl
theorem lq_s14 {s : Nat} (h : Sc s) : (s + 14 < 179) = True := by rcases h with rfl | rfl | rfl <;> decide
theorem sh_s15 {s : Nat} (h : Sc s) : shp (s + 15) = (1, 6) := by rcases h with rfl | rfl | rfl <;> rfl
theorem lq_s15 {s : Nat} (h : Sc s) : (s + 15 < 179) = True := by rcases h with rfl | rfl | rfl <;> decide
theorem sh_s16 {s : Nat} (h : Sc s) : shp (s + 16) = (0, 2) := by rcases h with rfl | rfl | rfl <;> rfl
theorem lq_s16 {s : Nat} (h : Sc s) : (s + 16 < 179) = True := by rcases h with rfl | rfl | rfl <;> decide
theorem sh_s17 {s : Nat} (h : Sc s) : shp (s + 17) = (1, 12) := by rcases h with rfl | rfl | rfl <;> rfl
theorem lq_s17 {s : Nat} (h : Sc s) : (s + 17 < 179) = True := by rcases h with rfl | rfl | rfl <;> decide
theorem sh_s18 {s : Nat} (h : Sc s) : shp (s + 18) = (1, 12) := by rcases h with rfl | rfl | rfl <;> rfl
theorem lq_s18 {s : Nat} (h : Sc s) : (s + 18 < 179) = True := by rcases h with rfl | rfl | rfl <;> decide
theorem sh_s19 {s : Nat} (h : Sc s) : shp (s + 19) = (1, wd s) := by rcases h with rfl | rfl | rfl <;> rfl
theorem lq_s19 {s : Nat} (h : Sc s) : (s + 19 < 179) = True := by rcases h with rfl | rfl | rfl <;> decide
theorem sh_s20 {s : Nat} (h : Sc s) : shp (s + 20) = (1, wd s) := by rcases h with rfl | rfl | rfl <;> rfl
theorem lq_s20 {s : Nat} (h : Sc s) : (s + 20 < 179) = True := by rcases h with rfl | rfl | rfl <;> decide
theorem sh_s21 {s : Nat} (h : Sc s) : shp (s + 21) = (1, wd s) := by rcases h with rfl | rfl | rfl <;> rfl
theorem lq_s21 {s : Nat} (h : Sc s) : (s + 21 < 179) = True := by rcases h with rfl | rfl | rfl <;> decide
theorem sh_s22 {s : Nat} (h : Sc s) : shp (s + 22) = (1, wd s) := by rcases h with rfl | rfl | rfl <;> rfl
theorem lq_s22 {s : Nat} (h : Sc s) : (s + 22 < 179) = True := by rcases h with rfl | rfl | rfl <;> decide
theorem sh_s23 {s : Nat} (h : Sc s) : shp (s + 23) = (1, wd s) := by rcases h with rfl | rfl | rfl <;> rfl
theorem lq_s23 {s : Nat} (h : Sc s) : (s + 23 < 179) = True := by rcases h with rfl | rfl | rfl <;> decide
theorem sh_s24 {s : Nat} (h : Sc s) : shp (s + 24) = (1, wd s) := by rcases h with rfl | rfl | rfl <;> rfl
theorem lq_s24 {s : Nat} (h : Sc s) : (s + 24 < 179) = True := by rcases h with rfl | rfl | rfl <;> decide
theorem sh_s25 {s : Nat} (h : Sc s) : shp (s + 25) = (1, 60 * wd s) := by rcases h with rfl | rfl | rfl <;> rfl
theorem lq_s25 {s : Nat} (h : Sc s) : (s + 25 < 179) = True := by rcases h with rfl | rfl | rfl <;> decide
theorem rg_s0_0 {nw sp so ai s : Nat} (h : Sc s) : rfv (RG nw sp so ai (s) 0) = .ref (s + 1) := by rcases h with rfl | rfl | rfl <;> rfl
theorem rg_s0_1 {nw sp so ai s : Nat} (h : Sc s) : rfv (RG nw sp so ai (s) 1) = .ref (s + 16) := by rcases h with rfl | rfl | rfl <;> rfl
theorem rg_s0_2 {nw sp so ai s : Nat} (h : Sc s) : rfv (RG nw sp so ai (s) 2) = .ref (s + 7) := by rcases h with rfl | rfl | rfl <;> rfl
theorem rg_s0_3 {nw sp so ai s : Nat} (h : Sc s) : rfv (RG nw sp so ai (s) 3) = .ref (s + 25) := by rcases h with rfl | rfl | rfl <;> rfl
theorem rg_s1_0 {nw sp so ai s : Nat} (h : Sc s) : rfv (RG nw sp so ai (s + 1) 0) = .ref (s + 2) := by rcases h with rfl | rfl | rfl <;> rfl
theorem rg_s1_1 {nw sp so ai s : Nat} (h : Sc s) : rfv (RG nw sp so ai (s + 1) 1) = .ref (s + 3) := by rcases h with rfl | rfl | rfl <;> rfl
theorem rg_s1_2 {nw sp so ai s : Nat} (h : Sc s) : rfv (RG nw sp so ai (s + 1) 2) = .ref (s + 4) := by rcases h with rfl | rfl | rfl <;> rfl
theorem rg_s1_3 {nw sp so ai s : Nat} (h : Sc s) : rfv (RG nw sp so ai (s + 1) 3) = .ref (s + 5) := by rcases h with rfl | rfl | rfl <;> rfl
theorem rg_s1_4 {nw sp so ai s : Nat} (h : Sc s) : rfv (RG nw sp so ai (s + 1) 4) = .ref (s + 6) := by rcases h with rfl | rfl | rfl <;> rfl
theorem rg_s7_0 {nw sp so ai s : Nat} (h : Sc s) : rfv (RG nw sp so ai (s + 7) 0) = .ref (s + 8) := by rcases h with rfl | rfl | rfl <;> rfl
theorem rg_s9_0 {nw sp so ai s : Nat} (h : Sc s) : rfv (RG nw sp so ai (s + 9) 0) = .ref (s + 10) := by rcases h with rfl | rfl | rfl <;> rfl
theorem rg_s9_1 {nw sp so ai s : Nat} (h : Sc s) : rfv (RG nw sp so ai (s + 9) 1) = .ref (s + 11) := by rcases h with rfl | rfl | rfl <;> rfl
theorem rg_s9_2 {nw sp so ai s : Nat} (h : Sc s) : rfv (RG nw sp so ai (s + 9) 2) = .ref (s + 12) := by rcases h with rfl | rfl | rfl <;> rfl
theorem rg_s9_3 {nw sp so ai s : Nat} (h : Sc s) : rfv (RG nw sp so ai (s + 9) 3) = .ref (s + 13) := by rcases h with rfl | rfl | rfl <;> rfl
theorem rg_s9_4 {nw sp so ai s : Nat} (h : Sc s) : rfv (RG nw sp so ai (s + 9) 4) = .ref (s + 14) := by rcases h with rfl | rfl | rfl <;> rfl
theorem rg_s9_5 {nw sp so ai s : Nat} (h : Sc s) : rfv (RG nw sp so ai (s + 9) 5) = .ref (s + 15) := by rcases h with rfl | rfl | rfl <;> rfl
theorem rg_s16_6 {nw sp so ai s : Nat} (h : Sc s) : rfv (RG nw sp so ai (s + 16) 6) = .ref (s + 17) := by rcases h with rfl | rfl | rfl <;> rfl
theorem rg_s16_7 {nw sp so ai s : Nat} (h : Sc s) : rfv (RG nw sp so ai (s + 16) 7) = .ref (s + 18) := by rcases h with rfl | rfl | rfl <;> rfl
theorem rg_s16_0 {nw sp so ai s : Nat} (h : Sc s) : rfv (RG nw sp so ai (s + 16) 0) = .ref (s + 19) := by rcases h with rfl | rfl | rfl <;> rfl
theorem rg_s16_1 {nw sp so ai s : Nat} (h : Sc s) : rfv (RG nw sp so ai (s + 16) 1) = .ref (s + 20) := by rcases h with rfl | rfl | rfl <;> rfl
theorem rg_s16_2 {nw sp so ai s : Nat} (h : Sc s) : rfv (RG nw sp so ai (s + 16) 2) = .ref (s + 21) := by rcases h with rfl | rfl | rfl <;> rfl
theorem rg_s16_3 {nw sp so ai s : Nat} (h : Sc s) : rfv (RG nw sp so ai (s + 16) 3) = .ref (s + 22) := by rcases h with rfl | rfl | rfl <;> rfl
theorem rg_s16_4 {nw sp so ai s : Nat} (h : Sc s) : rfv (RG nw sp so ai (s + 16) 4) = .ref (s + 23) := by rcases h with rfl | rfl | rfl <;> rfl
theorem rg_s16_5 {nw sp so ai s : Nat} (h : Sc s) : rfv (RG nw sp so ai (s + 16) 5) = .ref (s + 24) := by rcases h with rfl | rfl | rfl <;> rfl
/-- the sorts that a scene has -/
def So (so : Nat) : Prop := so = 20 ∨ so = 47 ∨ so = 81
theorem sh_o {so : Nat} (h : So so) : shp (so) = (0, 6) := by rcases h with rfl | rfl | rfl <;> rfl
theorem lq_o {so : Nat} (h : So so) : (so < 179) = True := by rcases h with rfl | rfl | rfl <;> decide
theorem sh_o1 {so : Nat} (h : So so) : shp (so + 1) = (1, 6) := by rcases h with rfl | rfl | rfl <;> rfl
theorem lq_o1 {so : Nat} (h : So so) : (so + 1 < 179) = True := by rcases h with rfl | rfl | rfl <;> decide
theorem sh_o2 {so : Nat} (h : So so) : shp (so + 2) = (1, 6) := by rcases h with rfl | rfl | rfl <;> rfl
theorem lq_o2 {so : Nat} (h : So so) : (so + 2 < 179) = True := by rcases h with rfl | rfl | rfl <;> decide
theorem sh_o3 {so : Nat} (h : So so) : shp (so + 3) = (1, 6) := by rcases h with rfl | rfl | rfl <;> rfl
theorem lq_o3 {so : Nat} (h : So so) : (so + 3 < 179) = True := by rcases h with rfl | rfl | rfl <;> decide
theorem sh_o4 {so : Nat} (h : So so) : shp (so + 4) = (1, 6) := by rcases h with rfl | rfl | rfl <;> rfl
theorem lq_o4 {so : Nat} (h : So so) : (so + 4 < 179) = True := by rcases h with rfl | rfl | rfl <;> decide
theorem sh_o5 {so : Nat} (h : So so) : shp (so + 5) = (1, 6) := by rcases h with rfl | rfl | rfl <;> rfl
theorem lq_o5 {so : Nat} (h : So so) : (so + 5 < 179) = True := by rcases h with rfl | rfl | rfl <;> decide
theorem sh_o6 {so : Nat} (h : So so) : shp (so + 6) = (1, 6) := by rcases h with rfl | rfl | rfl <;> rfl
theorem lq_o6 {so : Nat} (h : So so) : (so + 6 < 179) = True := by rcases h with rfl | rfl | rfl <;> decide
theorem rg_o0 {nw sp s2 ai so : Nat} (h : So so) : rfv (RG nw sp s2 ai so 0) = .ref (so + 1) := by rcases h with rfl | rfl | rfl <;> rfl
theorem rg_o1 {nw sp s2 ai so : Nat} (h : So so) : rfv (RG nw sp s2 ai so 1) = .ref (so + 2) := by rcases h with rfl | rfl | rfl <;> rfl
theorem rg_o2 {nw sp s2 ai so : Nat} (h : So so) : rfv (RG nw sp s2 ai so 2) = .ref (so + 3) := by rcases h with rfl | rfl | rfl <;> rfl
theorem rg_o3 {nw sp s2 ai so : Nat} (h : So so) : rfv (RG nw sp s2 ai so 3) = .ref (so + 4) := by rcases h with rfl | rfl | rfl <;> rfl
theorem rg_o4 {nw sp s2 ai so : Nat} (h : So so) : rfv (RG nw sp s2 ai so 4) = .ref (so + 5) := by rcases h with rfl | rfl | rfl <;> rfl
theorem rg_o5 {nw sp s2 ai so : Nat} (h : So so) : rfv (RG nw sp s2 ai so 5) = .ref (so + 6) := by rcases h with rfl | rfl | rfl <;> rfl
theorem sh_0 : shp 0 = (0, 10) := rfl
theorem sh_1 : shp 1 = (1, 1600) := rfl
theorem sh_2 : shp 2 = (1, 52) := rfl
theorem sh_3 : shp 3 = (0, 9) := rfl
theorem sh_4 : shp 4 = (1, 12) := rfl
theorem sh_5 : shp 5 = (1, 12) := rfl
theorem sh_6 : shp 6 = (1, 12) := rfl
theorem sh_7 : shp 7 = (1, 12) := rfl
theorem sh_8 : shp 8 = (1, 12) := rfl
theorem sh_9 : shp 9 = (1, 12) := rfl
theorem sh_10 : shp 10 = (1, 8) := rfl
theorem sh_11 : shp 11 = (0, 5) := rfl
theorem sh_12 : shp 12 = (0, 1) := rfl
theorem sh_13 : shp 13 = (1, 4) := rfl
theorem sh_14 : shp 14 = (1, 4) := rfl
theorem sh_15 : shp 15 = (1, 4) := rfl
theorem sh_16 : shp 16 = (1, 4) := rfl
theorem sh_17 : shp 17 = (1, 4) := rfl
theorem sh_18 : shp 18 = (0, 0) := rfl
theorem sh_19 : shp 19 = (1, 20) := rfl
theorem sh_20 : shp 20 = (0, 6) := rfl
theorem sh_21 : shp 21 = (1, 6) := rfl
theorem sh_22 : shp 22 = (1, 6) := rfl
theorem sh_23 : shp 23 = (1, 6) := rfl
theorem sh_24 : shp 24 = (1, 6) := rfl
theorem sh_25 : shp 25 = (1, 6) := rfl
theorem sh_26 : shp 26 = (1, 6) := rfl
theorem sh_27 : shp 27 = (0, 2) := rfl
theorem sh_28 : shp 28 = (1, 12) := rfl
theorem sh_29 : shp 29 = (1, 12) := rfl
theorem sh_30 : shp 30 = (1, 20) := rfl
theorem sh_31 : shp 31 = (1, 20) := rfl
theorem sh_32 : shp 32 = (1, 20) := rfl
theorem sh_33 : shp 33 = (1, 20) := rfl
theorem sh_34 : shp 34 = (1, 20) := rfl
theorem sh_35 : shp 35 = (1, 20) := rfl
theorem sh_36 : shp 36 = (1, 1200) := rfl
theorem sh_37 : shp 37 = (0, 8) := rfl
theorem sh_38 : shp 38 = (0, 5) := rfl
theorem sh_39 : shp 39 = (0, 1) := rfl
theorem sh_40 : shp 40 = (1, 4) := rfl
theorem sh_41 : shp 41 = (1, 4) := rfl
theorem sh_42 : shp 42 = (1, 4) := rfl
theorem sh_43 : shp 43 = (1, 4) := rfl
theorem sh_44 : shp 44 = (1, 4) := rfl
theorem sh_45 : shp 45 = (0, 0) := rfl
theorem sh_46 : shp 46 = (1, 20) := rfl
theorem sh_47 : shp 47 = (0, 6) := rfl
theorem sh_48 : shp 48 = (1, 6) := rfl
theorem sh_49 : shp 49 = (1, 6) := rfl
theorem sh_50 : shp 50 = (1, 6) := rfl
theorem sh_51 : shp 51 = (1, 6) := rfl
theorem sh_52 : shp 52 = (1, 6) := rfl
theorem sh_53 : shp 53 = (1, 6) := rfl
theorem sh_54 : shp 54 = (0, 2) := rfl
theorem sh_55 : shp 55 = (1, 12) := rfl
theorem sh_56 : shp 56 = (1, 12) := rfl
theorem sh_57 : shp 57 = (1, 12) := rfl
theorem sh_58 : shp 58 = (1, 12) := rfl
theorem sh_59 : shp 59 = (1, 12) := rfl
theorem sh_60 : shp 60 = (1, 12) := rfl
theorem sh_61 : shp 61 = (1, 12) := rfl
theorem sh_62 : shp 62 = (1, 12) := rfl
theorem sh_63 : shp 63 = (1, 720) := rfl
theorem sh_64 : shp 64 = (0, 4) := rfl
theorem sh_65 : shp 65 = (1, 12) := rfl
theorem sh_66 : shp 66 = (1, 12) := rfl
theorem sh_67 : shp 67 = (1, 12) := rfl
theorem sh_68 : shp 68 = (1, 12) := rfl
theorem sh_69 : shp 69 = (1, 1600) := rfl
theorem sh_70 : shp 70 = (1, 64) := rfl
theorem sh_71 : shp 71 = (0, 8) := rfl
theorem sh_72 : shp 72 = (0, 5) := rfl
theorem sh_73 : shp 73 = (0, 1) := rfl
theorem sh_74 : shp 74 = (1, 4) := rfl
theorem sh_75 : shp 75 = (1, 4) := rfl
theorem sh_76 : shp 76 = (1, 4) := rfl
theorem sh_77 : shp 77 = (1, 4) := rfl
theorem sh_78 : shp 78 = (1, 4) := rfl
theorem sh_79 : shp 79 = (0, 0) := rfl
theorem sh_80 : shp 80 = (1, 20) := rfl
theorem sh_81 : shp 81 = (0, 6) := rfl
theorem sh_82 : shp 82 = (1, 6) := rfl
theorem sh_83 : shp 83 = (1, 6) := rfl
theorem sh_84 : shp 84 = (1, 6) := rfl
theorem sh_85 : shp 85 = (1, 6) := rfl
theorem sh_86 : shp 86 = (1, 6) := rfl
theorem sh_87 : shp 87 = (1, 6) := rfl
theorem sh_88 : shp 88 = (0, 2) := rfl
theorem sh_89 : shp 89 = (1, 12) := rfl
theorem sh_90 : shp 90 = (1, 12) := rfl
theorem sh_91 : shp 91 = (1, 12) := rfl
theorem sh_92 : shp 92 = (1, 12) := rfl
theorem sh_93 : shp 93 = (1, 12) := rfl
theorem sh_94 : shp 94 = (1, 12) := rfl
theorem sh_95 : shp 95 = (1, 12) := rfl
theorem sh_96 : shp 96 = (1, 12) := rfl
theorem sh_97 : shp 97 = (1, 720) := rfl
theorem sh_98 : shp 98 = (0, 4) := rfl
theorem sh_99 : shp 99 = (1, 12) := rfl
theorem sh_100 : shp 100 = (1, 12) := rfl
theorem sh_101 : shp 101 = (1, 12) := rfl
theorem sh_102 : shp 102 = (1, 12) := rfl
theorem sh_103 : shp 103 = (1, 1600) := rfl
theorem sh_104 : shp 104 = (1, 64) := rfl
theorem sh_105 : shp 105 = (0, 3) := rfl
theorem sh_106 : shp 106 = (0, 7) := rfl
theorem sh_107 : shp 107 = (1, 33) := rfl
theorem sh_108 : shp 108 = (1, 1601) := rfl
theorem sh_109 : shp 109 = (1, 1601) := rfl
theorem sh_110 : shp 110 = (1, 1601) := rfl
theorem sh_111 : shp 111 = (1, 1601) := rfl
theorem sh_112 : shp 112 = (0, 11) := rfl
theorem sh_113 : shp 113 = (1, 1600) := rfl
theorem sh_114 : shp 114 = (2, 5) := rfl
theorem sh_115 : shp 115 = (2, 4) := rfl
theorem sh_116 : shp 116 = (2, 6) := rfl
theorem sh_117 : shp 117 = (2, 5) := rfl
theorem sh_118 : shp 118 = (2, 4) := rfl
theorem sh_119 : shp 119 = (2, 5) := rfl
theorem sh_120 : shp 120 = (2, 4) := rfl
theorem sh_121 : shp 121 = (2, 3) := rfl
theorem sh_122 : shp 122 = (2, 5) := rfl
theorem sh_123 : shp 123 = (2, 5) := rfl
theorem sh_124 : shp 124 = (2, 5) := rfl
theorem sh_125 : shp 125 = (2, 5) := rfl
theorem sh_126 : shp 126 = (2, 6) := rfl
theorem sh_127 : shp 127 = (2, 4) := rfl
theorem sh_128 : shp 128 = (2, 5) := rfl
theorem sh_129 : shp 129 = (2, 6) := rfl
theorem sh_130 : shp 130 = (2, 2) := rfl
theorem sh_131 : shp 131 = (2, 4) := rfl
theorem sh_132 : shp 132 = (2, 5) := rfl
theorem sh_133 : shp 133 = (2, 4) := rfl
theorem sh_134 : shp 134 = (2, 2) := rfl
theorem sh_135 : shp 135 = (2, 3) := rfl
theorem sh_136 : shp 136 = (2, 3) := rfl
theorem sh_137 : shp 137 = (2, 3) := rfl
theorem sh_138 : shp 138 = (2, 4) := rfl
theorem sh_139 : shp 139 = (2, 4) := rfl
theorem sh_140 : shp 140 = (2, 4) := rfl
theorem sh_141 : shp 141 = (2, 4) := rfl
theorem sh_142 : shp 142 = (2, 5) := rfl
theorem sh_143 : shp 143 = (2, 3) := rfl
theorem sh_144 : shp 144 = (2, 4) := rfl
theorem sh_145 : shp 145 = (2, 3) := rfl
theorem sh_146 : shp 146 = (2, 3) := rfl
theorem sh_147 : shp 147 = (3, 72) := rfl
theorem sh_148 : shp 148 = (1, 6) := rfl
theorem sh_149 : shp 149 = (1, 60) := rfl
theorem sh_150 : shp 150 = (1, 32) := rfl
theorem sh_151 : shp 151 = (1, 12) := rfl
theorem sh_152 : shp 152 = (1, 12) := rfl
theorem sh_153 : shp 153 = (1, 12) := rfl
theorem sh_154 : shp 154 = (1, 6) := rfl
theorem sh_155 : shp 155 = (1, 3200) := rfl
theorem sh_156 : shp 156 = (1, 1700) := rfl
theorem sh_157 : shp 157 = (1, 2) := rfl
theorem sh_158 : shp 158 = (1, 24) := rfl
theorem sh_159 : shp 159 = (1, 24) := rfl
theorem sh_160 : shp 160 = (1, 24) := rfl
theorem sh_161 : shp 161 = (1, 24) := rfl
theorem sh_162 : shp 162 = (1, 32) := rfl
theorem sh_163 : shp 163 = (1, 32) := rfl
theorem sh_164 : shp 164 = (1, 32) := rfl
theorem sh_165 : shp 165 = (1, 32) := rfl
theorem sh_166 : shp 166 = (1, 12) := rfl
theorem sh_167 : shp 167 = (1, 12) := rfl
theorem sh_168 : shp 168 = (1, 12) := rfl
theorem sh_169 : shp 169 = (1, 12) := rfl
theorem sh_170 : shp 170 = (1, 6) := rfl
theorem sh_171 : shp 171 = (1, 12) := rfl
theorem sh_172 : shp 172 = (1, 12) := rfl
theorem sh_173 : shp 173 = (1, 5) := rfl
theorem sh_174 : shp 174 = (1, 12) := rfl
theorem sh_175 : shp 175 = (3, 1700) := rfl
theorem sh_176 : shp 176 = (1, 12) := rfl
theorem sh_177 : shp 177 = (1, 12) := rfl
theorem sh_178 : shp 178 = (1, 60) := rfl
theorem rg_0_0 {nw sp so ai : Nat} : rfv (RG nw sp so ai 0 0) = .ref 1 := rfl
theorem rg_0_1 {nw sp so ai : Nat} : rfv (RG nw sp so ai 0 1) = .ref 2 := rfl
theorem rg_0_2 {nw sp so ai : Nat} : rfv (RG nw sp so ai 0 2) = .ref 3 := rfl
theorem rg_0_3 {nw sp so ai : Nat} : rfv (RG nw sp so ai 0 3) = .ref 11 := rfl
theorem rg_0_6 {nw sp so ai : Nat} : rfv (RG nw sp so ai 0 6) = .ref 105 := rfl
theorem rg_3_0 {nw sp so ai : Nat} : rfv (RG nw sp so ai 3 0) = .ref 4 := rfl
theorem rg_3_1 {nw sp so ai : Nat} : rfv (RG nw sp so ai 3 1) = .ref 5 := rfl
theorem rg_3_2 {nw sp so ai : Nat} : rfv (RG nw sp so ai 3 2) = .ref 6 := rfl
theorem rg_3_3 {nw sp so ai : Nat} : rfv (RG nw sp so ai 3 3) = .ref 7 := rfl
theorem rg_3_4 {nw sp so ai : Nat} : rfv (RG nw sp so ai 3 4) = .ref 8 := rfl
theorem rg_3_5 {nw sp so ai : Nat} : rfv (RG nw sp so ai 3 5) = .ref 9 := rfl
theorem rg_3_6 {nw sp so ai : Nat} : rfv (RG nw sp so ai 3 6) = .ref 10 := rfl
theorem rg_37_0 {nw sp so ai : Nat} : rfv (RG nw sp so ai 37 0) = .ref 38 := rfl
theorem rg_37_1 {nw sp so ai : Nat} : rfv (RG nw sp so ai 37 1) = .ref 64 := rfl
theorem rg_64_0 {nw sp so ai : Nat} : rfv (RG nw sp so ai 64 0) = .ref 65 := rfl
theorem rg_64_1 {nw sp so ai : Nat} : rfv (RG nw sp so ai 64 1) = .ref 66 := rfl
theorem rg_64_2 {nw sp so ai : Nat} : rfv (RG nw sp so ai 64 2) = .ref 67 := rfl
theorem rg_64_3 {nw sp so ai : Nat} : rfv (RG nw sp so ai 64 3) = .ref 68 := rfl
theorem rg_64_4 {nw sp so ai : Nat} : rfv (RG nw sp so ai 64 4) = .ref 69 := rfl
theorem rg_64_5 {nw sp so ai : Nat} : rfv (RG nw sp so ai 64 5) = .ref 70 := rfl
theorem rg_71_0 {nw sp so ai : Nat} : rfv (RG nw sp so ai 71 0) = .ref 72 := rfl
theorem rg_71_1 {nw sp so ai : Nat} : rfv (RG nw sp so ai 71 1) = .ref 98 := rfl
theorem rg_98_0 {nw sp so ai : Nat} : rfv (RG nw sp so ai 98 0) = .ref 99 := rfl
theorem rg_98_1 {nw sp so ai : Nat} : rfv (RG nw sp so ai 98 1) = .ref 100 := rfl
theorem rg_98_2 {nw sp so ai : Nat} : rfv (RG nw sp so ai 98 2) = .ref 101 := rfl
theorem rg_98_3 {nw sp so ai : Nat} : rfv (RG nw sp so ai 98 3) = .ref 102 := rfl
theorem rg_98_4 {nw sp so ai : Nat} : rfv (RG nw sp so ai 98 4) = .ref 103 := rfl
theorem rg_98_5 {nw sp so ai : Nat} : rfv (RG nw sp so ai 98 5) = .ref 104 := rfl
theorem rg_105_0 {nw sp so ai : Nat} : rfv (RG nw sp so ai 105 0) = .ref 106 := rfl
theorem rg_106_0 {nw sp so ai : Nat} : rfv (RG nw sp so ai 106 0) = .ref 107 := rfl
theorem rg_106_1 {nw sp so ai : Nat} : rfv (RG nw sp so ai 106 1) = .ref 108 := rfl
theorem rg_106_2 {nw sp so ai : Nat} : rfv (RG nw sp so ai 106 2) = .ref 109 := rfl
theorem rg_106_3 {nw sp so ai : Nat} : rfv (RG nw sp so ai 106 3) = .ref 110 := rfl
theorem rg_106_4 {nw sp so ai : Nat} : rfv (RG nw sp so ai 106 4) = .ref 111 := rfl
theorem rg_112_0 {nw sp so ai : Nat} : rfv (RG nw sp so ai 112 0) = .ref 113 := rfl
theorem rg_112_9 {nw sp so ai : Nat} : rfv (RG nw sp so ai 112 9) = .ref 114 := rfl
theorem rg_112_10 {nw sp so ai : Nat} : rfv (RG nw sp so ai 112 10) = .ref 115 := rfl
theorem rg_112_11 {nw sp so ai : Nat} : rfv (RG nw sp so ai 112 11) = .ref 116 := rfl
theorem rg_112_12 {nw sp so ai : Nat} : rfv (RG nw sp so ai 112 12) = .ref 117 := rfl
theorem rg_112_13 {nw sp so ai : Nat} : rfv (RG nw sp so ai 112 13) = .ref 118 := rfl
theorem rg_112_14 {nw sp so ai : Nat} : rfv (RG nw sp so ai 112 14) = .ref 119 := rfl
theorem rg_112_15 {nw sp so ai : Nat} : rfv (RG nw sp so ai 112 15) = .ref 120 := rfl
theorem rg_112_16 {nw sp so ai : Nat} : rfv (RG nw sp so ai 112 16) = .ref 121 := rfl
theorem rg_112_17 {nw sp so ai : Nat} : rfv (RG nw sp so ai 112 17) = .ref 122 := rfl
theorem rg_112_18 {nw sp so ai : Nat} : rfv (RG nw sp so ai 112 18) = .ref 123 := rfl
theorem rg_112_19 {nw sp so ai : Nat} : rfv (RG nw sp so ai 112 19) = .ref 124 := rfl
theorem rg_112_20 {nw sp so ai : Nat} : rfv (RG nw sp so ai 112 20) = .ref 125 := rfl
theorem rg_112_21 {nw sp so ai : Nat} : rfv (RG nw sp so ai 112 21) = .ref 126 := rfl
theorem rg_112_22 {nw sp so ai : Nat} : rfv (RG nw sp so ai 112 22) = .ref 127 := rfl
theorem rg_112_23 {nw sp so ai : Nat} : rfv (RG nw sp so ai 112 23) = .ref 128 := rfl
theorem rg_112_24 {nw sp so ai : Nat} : rfv (RG nw sp so ai 112 24) = .ref 129 := rfl
theorem rg_112_25 {nw sp so ai : Nat} : rfv (RG nw sp so ai 112 25) = .ref 130 := rfl
theorem rg_112_26 {nw sp so ai : Nat} : rfv (RG nw sp so ai 112 26) = .ref 131 := rfl
theorem rg_112_27 {nw sp so ai : Nat} : rfv (RG nw sp so ai 112 27) = .ref 132 := rfl
theorem rg_112_28 {nw sp so ai : Nat} : rfv (RG nw sp so ai 112 28) = .ref 133 := rfl
theorem rg_112_29 {nw sp so ai : Nat} : rfv (RG nw sp so ai 112 29) = .ref 134 := rfl
theorem rg_112_30 {nw sp so ai : Nat} : rfv (RG nw sp so ai 112 30) = .ref 135 := rfl
theorem rg_112_31 {nw sp so ai : Nat} : rfv (RG nw sp so ai 112 31) = .ref 136 := rfl
theorem rg_112_32 {nw sp so ai : Nat} : rfv (RG nw sp so ai 112 32) = .ref 137 := rfl
theorem rg_112_33 {nw sp so ai : Nat} : rfv (RG nw sp so ai 112 33) = .ref 138 := rfl
theorem rg_112_34 {nw sp so ai : Nat} : rfv (RG nw sp so ai 112 34) = .ref 139 := rfl
theorem rg_112_35 {nw sp so ai : Nat} : rfv (RG nw sp so ai 112 35) = .ref 140 := rfl
theorem rg_112_36 {nw sp so ai : Nat} : rfv (RG nw sp so ai 112 36) = .ref 141 := rfl
theorem rg_112_37 {nw sp so ai : Nat} : rfv (RG nw sp so ai 112 37) = .ref 142 := rfl
theorem rg_112_38 {nw sp so ai : Nat} : rfv (RG nw sp so ai 112 38) = .ref 143 := rfl
theorem rg_112_39 {nw sp so ai : Nat} : rfv (RG nw sp so ai 112 39) = .ref 144 := rfl
theorem rg_112_40 {nw sp so ai : Nat} : rfv (RG nw sp so ai 112 40) = .ref 145 := rfl
theorem rg_112_41 {nw sp so ai : Nat} : rfv (RG nw sp so ai 112 41) = .ref 146 := rfl
theorem rg_112_43 {nw sp so ai : Nat} : rfv (RG nw sp so ai 112 43) = .ref 147 := rfl
theorem rg_112_44 {nw sp so ai : Nat} : rfv (RG nw sp so ai 112 44) = .ref 148 := rfl
theorem rg_112_45 {nw sp so ai : Nat} : rfv (RG nw sp so ai 112 45) = .ref 149 := rfl
theorem rg_112_46 {nw sp so ai : Nat} : rfv (RG nw sp so ai 112 46) = .ref 150 := rfl
theorem rg_112_47 {nw sp so ai : Nat} : rfv (RG nw sp so ai 112 47) = .ref 151 := rfl
theorem rg_112_48 {nw sp so ai : Nat} : rfv (RG nw sp so ai 112 48) = .ref 152 := rfl
theorem rg_112_49 {nw sp so ai : Nat} : rfv (RG nw sp so ai 112 49) = .ref 153 := rfl
theorem rg_112_51 {nw sp so ai : Nat} : rfv (RG nw sp so ai 112 51) = .ref 154 := rfl
theorem rg_112_55 {nw sp so ai : Nat} : rfv (RG nw sp so ai 112 55) = .ref 155 := rfl
theorem rg_112_57 {nw sp so ai : Nat} : rfv (RG nw sp so ai 112 57) = .ref 156 := rfl
theorem rg_112_60 {nw sp so ai : Nat} : rfv (RG nw sp so ai 112 60) = .ref 157 := rfl
theorem rg_112_61 {nw sp so ai : Nat} : rfv (RG nw sp so ai 112 61) = .ref 158 := rfl
theorem rg_112_62 {nw sp so ai : Nat} : rfv (RG nw sp so ai 112 62) = .ref 159 := rfl
theorem rg_112_63 {nw sp so ai : Nat} : rfv (RG nw sp so ai 112 63) = .ref 160 := rfl
theorem rg_112_64 {nw sp so ai : Nat} : rfv (RG nw sp so ai 112 64) = .ref 161 := rfl
theorem rg_112_66 {nw sp so ai : Nat} : rfv (RG nw sp so ai 112 66) = .ref 162 := rfl
theorem rg_112_67 {nw sp so ai : Nat} : rfv (RG nw sp so ai 112 67) = .ref 163 := rfl
theorem rg_112_68 {nw sp so ai : Nat} : rfv (RG nw sp so ai 112 68) = .ref 164 := rfl
theorem rg_112_69 {nw sp so ai : Nat} : rfv (RG nw sp so ai 112 69) = .ref 165 := rfl
theorem rg_112_70 {nw sp so ai : Nat} : rfv (RG nw sp so ai 112 70) = .ref 166 := rfl
theorem rg_112_71 {nw sp so ai : Nat} : rfv (RG nw sp so ai 112 71) = .ref 167 := rfl
theorem rg_112_72 {nw sp so ai : Nat} : rfv (RG nw sp so ai 112 72) = .ref 168 := rfl
theorem rg_112_73 {nw sp so ai : Nat} : rfv (RG nw sp so ai 112 73) = .ref 169 := rfl
theorem rg_112_74 {nw sp so ai : Nat} : rfv (RG nw sp so ai 112 74) = .ref 170 := rfl
theorem rg_112_80 {nw sp so ai : Nat} : rfv (RG nw sp so ai 112 80) = .ref 171 := rfl
theorem rg_112_83 {nw sp so ai : Nat} : rfv (RG nw sp so ai 112 83) = .ref 172 := rfl
theorem rg_112_84 {nw sp so ai : Nat} : rfv (RG nw sp so ai 112 84) = .ref 173 := rfl
theorem rg_112_85 {nw sp so ai : Nat} : rfv (RG nw sp so ai 112 85) = .ref 174 := rfl
theorem rg_112_86 {nw sp so ai : Nat} : rfv (RG nw sp so ai 112 86) = .ref 175 := rfl
theorem rg_112_90 {nw sp so ai : Nat} : rfv (RG nw sp so ai 112 90) = .ref 176 := rfl
theorem rg_112_91 {nw sp so ai : Nat} : rfv (RG nw sp so ai 112 91) = .ref 177 := rfl
theorem rg_112_92 {nw sp so ai : Nat} : rfv (RG nw sp so ai 112 92) = .ref 178 := rfl
theorem rg_0_now {nw sp so ai : Nat} : rfv (RG nw sp so ai 0 4) = .ref nw := rfl
theorem rg_0_spare {nw sp so ai : Nat} : rfv (RG nw sp so ai 0 5) = .ref sp := rfl
theorem rg_11_sorts {nw sp so ai : Nat} : rfv (RG nw sp so ai 11 5) = .ref so := rfl
theorem rg_38_sorts {nw sp so ai : Nat} : rfv (RG nw sp so ai 38 5) = .ref 47 := rfl
theorem rg_72_sorts {nw sp so ai : Nat} : rfv (RG nw sp so ai 72 5) = .ref 81 := rfl
theorem rg_105_scene {nw sp so ai : Nat} : rfv (RG nw sp so ai 105 1) = .ref (ai + 1) := rfl
theorem rg_105_sorts {nw sp so ai : Nat} : rfv (RG nw sp so ai 105 2) = .ref (ai + 10) := rfl
theorem rg_105_hats {nw sp so ai : Nat} : rfv (RG nw sp so ai 105 3) = .ref (ai + 2) := rfl
theorem rg_105_people {nw sp so ai : Nat} : rfv (RG nw sp so ai 105 4) = .ref (ai + 17) := rfl
theorem rg_105_rules {nw sp so ai : Nat} : rfv (RG nw sp so ai 105 5) = .ref (ai + 27) := rfl
