def f_Math_floorDiv_21 (x2 : Int32) (M : hm_M) : Option (Int32 × hm_M) :=
  some (x2, M)
def f_Math_floorDiv (M : hm_M) (x0 : Int32) (x1 : Int32) : Option (Int32 × hm_M) :=
  hm_gd (decide (¬ x1 = 0)) (if 0 ≤ (x0 ^^^ x1) then
    f_Math_floorDiv_21 (x0 / x1) M
  else
    if ((x0 / x1) * x1) = x0 then
      f_Math_floorDiv_21 (x0 / x1) M
    else
      some (((x0 / x1) - 1), M))
def f_Arrays_fill_5 : Nat → Nat → Int32 → Int32 → Int32 → hm_M → Option hm_M
  | 0, _, _, _, _, _ => none
  | n + 1, a0, x1, x2, x3, M =>
    if x3 ≤ x2 then
      some M
    else
      hm_gd (hm_ix x2 8) (hm_st M a0 x2.toNatClampNeg x1 (fun M_3 => f_Arrays_fill_5 n a0 x1 (x2 + 1) x3 M_3))
def f_Arrays_fill (M : hm_M) (a0 : Nat) (x1 : Int32) : Option hm_M :=
  f_Arrays_fill_5 1000 a0 x1 0 8 M
def f_Needs_widen_57 (a0 : Nat) (x1 : Int32) (b0 : Nat) (y1 : Int32) (y2 : Int32) (M : hm_M) : Option hm_M :=
  hm_gd (hm_ix y1 8) (hm_st M b0 y1.toNatClampNeg y2 (fun M_2 => hm_gd (hm_ix x1 8) (hm_st M_2 (a0 + 1) x1.toNatClampNeg 1 (fun M_4 => some M_4))))
def f_Needs_widen_28 (a0 : Nat) (x1 : Int32) (x3 : Int32) (b0 : Nat) (y1 : Int32) (y2 : Int32) (M : hm_M) : Option hm_M :=
  hm_gd (hm_ix y1 8) (hm_st M b0 y1.toNatClampNeg y2 (fun M_2 => hm_gd (hm_ix x1 8) (if (M_2 (a0 + 1) x1.toNatClampNeg) = 0 then
    f_Needs_widen_57 a0 x1 (a0 + 3) x1 x3 M_2
  else
    hm_gd (hm_ix x1 8) (f_Needs_widen_57 a0 x1 (a0 + 3) x1 (if (M_2 (a0 + 3) x1.toNatClampNeg) < x3 then x3 else (M_2 (a0 + 3) x1.toNatClampNeg)) M_2))))
def f_Needs_widen (M : hm_M) (a0 : Nat) (x1 : Int32) (x2 : Int32) (x3 : Int32) : Option hm_M :=
  hm_gd (hm_ix x1 8) (if (M (a0 + 1) x1.toNatClampNeg) = 0 then
    f_Needs_widen_28 a0 x1 x3 (a0 + 2) x1 x2 M
  else
    hm_gd (hm_ix x1 8) (f_Needs_widen_28 a0 x1 x3 (a0 + 2) x1 (if x2 < (M (a0 + 2) x1.toNatClampNeg) then x2 else (M (a0 + 2) x1.toNatClampNeg)) M))
def f_Needs_handOn_52 (k3 : Nat → Nat → Int32 → Int32 → Int32 → hm_M → Option hm_M) (a0 : Nat) (a1 : Nat) (x2 : Int32) (x3 : Int32) (x4 : Int32) (M : hm_M) : Option hm_M :=
  k3 a0 a1 x2 x3 (x4 + 1) M
def f_Needs_handOn_3 : Nat → Nat → Nat → Int32 → Int32 → Int32 → hm_M → Option hm_M
  | 0, _, _, _, _, _, _ => none
  | n + 1, a0, a1, x2, x3, x4, M =>
    if (M a1 3) ≤ x4 then
      some M
    else
      hm_gd (hm_ix x4 4) (if (M (a1 + 1) x4.toNatClampNeg) = (-1) then
        f_Needs_handOn_52 (fun a0 a1 x2 x3 x4 M => f_Needs_handOn_3 n a0 a1 x2 x3 x4 M) a0 a1 x2 x3 x4 M
      else
        hm_gd (hm_ix x4 4) (hm_gd (hm_ix x4 4) (hm_gd (hm_ix x4 4) (hm_bV (f_Needs_widen M a0 (M (a1 + 1) x4.toNatClampNeg) (x2 + (M (a1 + 2) x4.toNatClampNeg)) (x3 + (M (a1 + 2) x4.toNatClampNeg))) (fun M_8 => f_Needs_handOn_52 (fun a0 a1 x2 x3 x4 M => f_Needs_handOn_3 n a0 a1 x2 x3 x4 M) a0 a1 x2 x3 x4 M_8)))))
def f_Needs_handOn (M : hm_M) (a0 : Nat) (a1 : Nat) (x2 : Int32) (x3 : Int32) : Option hm_M :=
  f_Needs_handOn_3 1000 a0 a1 x2 x3 0 M
def f_Needs_spread_80 (k40 : Nat → Int32 → hm_M → Option hm_M) (a0 : Nat) (x4 : Int32) (M : hm_M) : Option hm_M :=
  k40 a0 (x4 + (-1)) M
def f_Needs_spread_40 : Nat → Nat → Int32 → hm_M → Option hm_M
  | 0, _, _, _ => none
  | n + 1, a0, x4, M =>
    if x4 < 0 then
      some M
    else
      hm_gd (hm_ix x4 8) (if (M (a0 + 1) x4.toNatClampNeg) = 0 then
        f_Needs_spread_80 (fun a0 x4 M => f_Needs_spread_40 n a0 x4 M) a0 x4 M
      else
        hm_gd (hm_ix x4 8) (hm_gd (hm_ix x4 8) (hm_gd (hm_ix x4 8) (hm_bV (f_Needs_handOn M a0 (5 + 4 * x4.toNatClampNeg) (M (a0 + 2) x4.toNatClampNeg) (M (a0 + 3) x4.toNatClampNeg)) (fun M_8 => f_Needs_spread_80 (fun a0 x4 M => f_Needs_spread_40 n a0 x4 M) a0 x4 M_8)))))
def f_Needs_spread_3 : Nat → Nat → Int32 → Int32 → Int32 → hm_M → Option hm_M
  | 0, _, _, _, _, _ => none
  | n + 1, a0, x2, x3, x4, M =>
    if 8 ≤ x4 then
      hm_bV (f_Needs_widen M a0 (M 1 5) x2 x3) (fun M_3 => f_Needs_spread_40 1000 a0 (M_3 1 5) M_3)
    else
      hm_gd (hm_ix x4 8) (hm_st M (a0 + 1) x4.toNatClampNeg 0 (fun M_6 => f_Needs_spread_3 n a0 x2 x3 (x4 + 1) M_6))
def f_Needs_spread (M : hm_M) (a0 : Nat) (x2 : Int32) (x3 : Int32) : Option hm_M :=
  f_Needs_spread_3 1000 a0 x2 x3 0 M
def f_Needs_lengthOf (M : hm_M) (a0 : Nat) (x1 : Int32) : Option (Int32 × hm_M) :=
  hm_gd (hm_ix x1 8) (hm_gd (hm_ix x1 8) (some ((((M (a0 + 3) x1.toNatClampNeg) - (M (a0 + 2) x1.toNatClampNeg)) + 1), M)))
def f_Pipe_hasStage_17 (y0 : Int32) (M : hm_M) : Option (Int32 × hm_M) :=
  hm_gd (decide (y0 = 0 ∨ y0 = 1)) (some (y0, M))
def f_Pipe_hasStage_16 (M : hm_M) : Option (Int32 × hm_M) :=
  f_Pipe_hasStage_17 0 M
def f_Pipe_hasStage (M : hm_M) (x1 : Int32) : Option (Int32 × hm_M) :=
  if x1 < 0 then
    f_Pipe_hasStage_16 M
  else
    if (M 1 3) ≤ x1 then
      f_Pipe_hasStage_16 M
    else
      f_Pipe_hasStage_17 1 M
def f_Pipe_addStage (M : hm_M) (x1 : Int32) (x2 : Int32) : Option (Int32 × hm_M) :=
  hm_gd (hm_ix (M 1 3) 8) (hm_st M (5 + 4 * (M 1 3).toNatClampNeg) 0 x1 (fun M_2 => hm_st M_2 (5 + 4 * (M 1 3).toNatClampNeg) 1 x2 (fun M_3 => hm_st M_3 1 3 ((M_3 1 3) + 1) (fun M_4 => some (((M_4 1 3) - 1), M_4)))))
def f_Pipe_tileCount (M : hm_M) : Option (Int32 × hm_M) :=
  hm_gd (decide (¬ (M 1 4) = 0)) (some (((((M 1 6) + (M 1 4)) - 1) / (M 1 4)), M))
def f_Pipe_tileFirst (M : hm_M) (x1 : Int32) : Option (Int32 × hm_M) :=
  some ((x1 * (M 1 4)), M)
def f_Pipe_tileLast (M : hm_M) (x1 : Int32) : Option (Int32 × hm_M) :=
  hm_bI (f_Pipe_tileFirst M x1) (fun r1 M_2 => some (((if (M_2 1 6) < (r1 + (M_2 1 4)) then (M_2 1 6) else (r1 + (M_2 1 4))) - 1), M_2))
def f_Pipe_valuesWorkedOutFor_57 (k2 : Int32 → Int32 → hm_M → Option (Int32 × hm_M)) (k20 : Int32 → Int32 → Nat → Int32 → Int32 → hm_M → Option (Int32 × hm_M)) (x1 : Int32) (x2 : Int32) (a3 : Nat) (x5 : Int32) (y0 : Int32) (y1 : Int32) (M : hm_M) : Option (Int32 × hm_M) :=
  k20 x1 x2 a3 (y0 + y1) (x5 + 1) M
def f_Pipe_valuesWorkedOutFor_20 (k2 : Int32 → Int32 → hm_M → Option (Int32 × hm_M)) : Nat → Int32 → Int32 → Nat → Int32 → Int32 → hm_M → Option (Int32 × hm_M)
  | 0, _, _, _, _, _, _ => none
  | n + 1, x1, x2, a3, x4, x5, M =>
    if (M a3 3) ≤ x5 then
      hm_gd (hm_ix x2 8) (hm_st M 3 x2.toNatClampNeg x4 (fun M_3 => k2 x1 (x2 + 1) M_3))
    else
      hm_gd (hm_ix x5 4) (if (M (a3 + 1) x5.toNatClampNeg) = (-1) then
        f_Pipe_valuesWorkedOutFor_57 k2 (fun x1 x2 a3 x4 x5 M => f_Pipe_valuesWorkedOutFor_20 k2 n x1 x2 a3 x4 x5 M) x1 x2 a3 x5 x4 0 M
      else
        hm_gd (hm_ix (M (a3 + 1) x5.toNatClampNeg) 8) (f_Pipe_valuesWorkedOutFor_57 k2 (fun x1 x2 a3 x4 x5 M => f_Pipe_valuesWorkedOutFor_20 k2 n x1 x2 a3 x4 x5 M) x1 x2 a3 x5 x4 (M 3 (M (a3 + 1) x5.toNatClampNeg).toNatClampNeg) M))
def f_Pipe_valuesWorkedOutFor_2 : Nat → Int32 → Int32 → hm_M → Option (Int32 × hm_M)
  | 0, _, _, _ => none
  | n + 1, x1, x2, M =>
    if x1 < x2 then
      hm_gd (hm_ix x1 8) (some ((M 3 x1.toNatClampNeg), M))
    else
      hm_gd (hm_ix x2 8) (f_Pipe_valuesWorkedOutFor_20 (fun x1 x2 M => f_Pipe_valuesWorkedOutFor_2 n x1 x2 M) 1000 x1 x2 (5 + 4 * x2.toNatClampNeg) 1 0 M)
def f_Pipe_valuesWorkedOutFor (M : hm_M) (x1 : Int32) : Option (Int32 × hm_M) :=
  f_Pipe_valuesWorkedOutFor_2 1000 x1 0 M
def f_Stage_addTap (M : hm_M) (a0 : Nat) (x1 : Int32) (x2 : Int32) (x3 : Int32) : Option hm_M :=
  hm_gd (hm_ix (M a0 3) 4) (hm_st M (a0 + 1) (M a0 3).toNatClampNeg x1 (fun M_2 => hm_gd (hm_ix (M_2 a0 3) 4) (hm_st M_2 (a0 + 2) (M_2 a0 3).toNatClampNeg x2 (fun M_4 => hm_gd (hm_ix (M_4 a0 3) 4) (hm_st M_4 (a0 + 3) (M_4 a0 3).toNatClampNeg x3 (fun M_6 => hm_st M_6 a0 3 ((M_6 a0 3) + 1) (fun M_7 => some M_7)))))))
def f_Stage_finished_54 (y0 : Int32) (M : hm_M) : Option (Int32 × hm_M) :=
  some (y0, M)
def f_Stage_finished (M : hm_M) (a0 : Nat) (x1 : Int32) : Option (Int32 × hm_M) :=
  if (M a0 1) = 1 then
    some ((if x1 < 0 then 0 else x1), M)
  else if (M a0 1) = 2 then
    hm_bI (f_Math_floorDiv M x1 2) (fun r3 M_4 => some (r3, M_4))
  else if (M a0 1) = 3 then
    if 0 ≤ x1 then
      f_Stage_finished_54 x1 M
    else
      f_Stage_finished_54 (-x1) M
  else some (x1, M)
def f_Plan_isUsedAs_33 (y0 : Int32) (M : hm_M) : Option (Int32 × hm_M) :=
  hm_gd (decide (y0 = 0 ∨ y0 = 1)) (some (y0, M))
def f_Plan_isUsedAs_32 (M : hm_M) : Option (Int32 × hm_M) :=
  f_Plan_isUsedAs_33 0 M
def f_Plan_isUsedAs (M : hm_M) (x1 : Int32) (x2 : Int32) : Option (Int32 × hm_M) :=
  hm_gd (hm_ix x1 8) (if (M 39 x1.toNatClampNeg) = 0 then
    f_Plan_isUsedAs_32 M
  else
    hm_gd (hm_ix x1 8) (if (M (5 + 4 * x1.toNatClampNeg) 2) = x2 then
      f_Plan_isUsedAs_33 1 M
    else
      f_Plan_isUsedAs_32 M))
def f_Plan_usedCount_28 (k4 : Int32 → Int32 → hm_M → Option (Int32 × hm_M)) (x2 : Int32) (y0 : Int32) (y1 : Int32) (M : hm_M) : Option (Int32 × hm_M) :=
  k4 (y0 + y1) (x2 + 1) M
def f_Plan_usedCount_4 : Nat → Int32 → Int32 → hm_M → Option (Int32 × hm_M)
  | 0, _, _, _ => none
  | n + 1, x1, x2, M =>
    if 8 ≤ x2 then
      some (x1, M)
    else
      hm_gd (hm_ix x2 8) (if (M 39 x2.toNatClampNeg) = 0 then
        f_Plan_usedCount_28 (fun x1 x2 M => f_Plan_usedCount_4 n x1 x2 M) x2 x1 0 M
      else
        f_Plan_usedCount_28 (fun x1 x2 M => f_Plan_usedCount_4 n x1 x2 M) x2 x1 1 M)
def f_Plan_usedCount (M : hm_M) : Option (Int32 × hm_M) :=
  f_Plan_usedCount_4 1000 0 0 M
def f_Plan_hasTiledToWorkOut_59 (M : hm_M) : Option (Int32 × hm_M) :=
  hm_gd (decide (1 = 0 ∨ 1 = 1)) (some (1, M))
def f_Plan_hasTiledToWorkOut_61 (k2 : Nat → Int32 → hm_M → Option (Int32 × hm_M)) (a1 : Nat) (x2 : Int32) (M : hm_M) : Option (Int32 × hm_M) :=
  k2 a1 (x2 + 1) M
def f_Plan_hasTiledToWorkOut_2 : Nat → Nat → Int32 → hm_M → Option (Int32 × hm_M)
  | 0, _, _, _ => none
  | n + 1, a1, x2, M =>
    if (M a1 3) ≤ x2 then
      hm_gd (decide (0 = 0 ∨ 0 = 1)) (some (0, M))
    else
      hm_gd (hm_ix x2 4) (if (M (a1 + 1) x2.toNatClampNeg) = (-1) then
        f_Plan_hasTiledToWorkOut_61 (fun a1 x2 M => f_Plan_hasTiledToWorkOut_2 n a1 x2 M) a1 x2 M
      else
        hm_gd (hm_ix (M (a1 + 1) x2.toNatClampNeg) 8) (if (M (5 + 4 * (M (a1 + 1) x2.toNatClampNeg).toNatClampNeg) 2) = 2 then
          f_Plan_hasTiledToWorkOut_59 M
        else
          if (M (5 + 4 * (M (a1 + 1) x2.toNatClampNeg).toNatClampNeg) 2) = 0 then
            hm_gd (hm_ix (M (a1 + 1) x2.toNatClampNeg) 8) (if (M 46 (M (a1 + 1) x2.toNatClampNeg).toNatClampNeg) = 0 then
              f_Plan_hasTiledToWorkOut_61 (fun a1 x2 M => f_Plan_hasTiledToWorkOut_2 n a1 x2 M) a1 x2 M
            else
              f_Plan_hasTiledToWorkOut_59 M)
          else
            f_Plan_hasTiledToWorkOut_61 (fun a1 x2 M => f_Plan_hasTiledToWorkOut_2 n a1 x2 M) a1 x2 M))
def f_Plan_hasTiledToWorkOut (M : hm_M) (a1 : Nat) : Option (Int32 × hm_M) :=
  f_Plan_hasTiledToWorkOut_2 1000 a1 0 M
def f_Plan_leastRootThatAsksTiled_52 (k2 : Int32 → hm_M → Option (Int32 × hm_M)) (x1 : Int32) (M : hm_M) : Option (Int32 × hm_M) :=
  k2 (x1 + 1) M
def f_Plan_leastRootThatAsksTiled_2 : Nat → Int32 → hm_M → Option (Int32 × hm_M)
  | 0, _, _ => none
  | n + 1, x1, M =>
    if (M 1 5) ≤ x1 then
      some ((-1), M)
    else
      hm_gd (hm_ix x1 8) (hm_bI (f_Plan_hasTiledToWorkOut M (5 + 4 * x1.toNatClampNeg)) (fun r3 M_4 => hm_gd (hm_ix x1 8) (hm_gd (decide (r3 = 0 ∨ r3 = 1)) (hm_st M_4 46 x1.toNatClampNeg r3 (fun M_8 => hm_bI (f_Plan_isUsedAs M_8 x1 1) (fun r9 M_10 => if r9 = 0 then
        f_Plan_leastRootThatAsksTiled_52 (fun x1 M => f_Plan_leastRootThatAsksTiled_2 n x1 M) x1 M_10
      else
        hm_gd (hm_ix x1 8) (if (M_10 46 x1.toNatClampNeg) = 0 then
          f_Plan_leastRootThatAsksTiled_52 (fun x1 M => f_Plan_leastRootThatAsksTiled_2 n x1 M) x1 M_10
        else
          some (x1, M_10))))))))
def f_Plan_leastRootThatAsksTiled (M : hm_M) : Option (Int32 × hm_M) :=
  f_Plan_leastRootThatAsksTiled_2 1000 0 M
def f_Plan_measureOutput (M : hm_M) : Option hm_M :=
  hm_gd (hm_ix (M 1 5) 8) (hm_st M 47 (M 1 5).toNatClampNeg (M 1 6) (fun M_2 => some M_2))
def f_Plan_measureRoots_51 (k2 : Int32 → hm_M → Option hm_M) (x1 : Int32) (M : hm_M) : Option hm_M :=
  k2 (x1 + 1) M
def f_Plan_measureRoots_2 : Nat → Int32 → hm_M → Option hm_M
  | 0, _, _ => none
  | n + 1, x1, M =>
    if (M 1 5) ≤ x1 then
      some M
    else
      hm_bI (f_Plan_isUsedAs M x1 1) (fun r2 M_3 => if r2 = 0 then
        f_Plan_measureRoots_51 (fun x1 M => f_Plan_measureRoots_2 n x1 M) x1 M_3
      else
        hm_bI (f_Needs_lengthOf M_3 38 x1) (fun r6 M_7 => hm_gd (hm_ix x1 8) (hm_st M_7 47 x1.toNatClampNeg r6 (fun M_10 => hm_gd (hm_ix x1 8) (hm_st M_10 37 6 ((M_10 37 6) + (M_10 47 x1.toNatClampNeg)) (fun M_12 => f_Plan_measureRoots_51 (fun x1 M => f_Plan_measureRoots_2 n x1 M) x1 M_12))))))
def f_Plan_measureRoots (M : hm_M) : Option hm_M :=
  f_Plan_measureRoots_2 1000 0 M
def f_Plan_measureTileInHand_59 (k4 : Int32 → Int32 → hm_M → Option (Int32 × hm_M)) (x1 : Int32) (x2 : Int32) (M : hm_M) : Option (Int32 × hm_M) :=
  k4 x1 (x2 + 1) M
def f_Plan_measureTileInHand_4 : Nat → Int32 → Int32 → hm_M → Option (Int32 × hm_M)
  | 0, _, _, _ => none
  | n + 1, x1, x2, M =>
    if (M 1 5) ≤ x2 then
      some (x1, M)
    else
      hm_bI (f_Plan_isUsedAs M x2 2) (fun r2 M_3 => if r2 = 0 then
        f_Plan_measureTileInHand_59 (fun x1 x2 M => f_Plan_measureTileInHand_4 n x1 x2 M) x1 x2 M_3
      else
        hm_bI (f_Needs_lengthOf M_3 42 x2) (fun r6 M_7 => hm_gd (hm_ix x2 8) (hm_gd (hm_ix x2 8) (hm_st M_7 47 x2.toNatClampNeg ((M_7 47 x2.toNatClampNeg) + r6) (fun M_11 => hm_st M_11 37 7 (if (M_11 37 7) < r6 then r6 else (M_11 37 7)) (fun M_12 => f_Plan_measureTileInHand_59 (fun x1 x2 M => f_Plan_measureTileInHand_4 n x1 x2 M) (x1 + r6) x2 M_12))))))
def f_Plan_measureTileInHand (M : hm_M) : Option (Int32 × hm_M) :=
  f_Plan_measureTileInHand_4 1000 0 0 M
def f_Plan_measureTiles_4 : Nat → Int32 → Int32 → hm_M → Option hm_M
  | 0, _, _, _ => none
  | n + 1, x1, x2, M =>
    hm_bI (f_Pipe_tileCount M ) (fun r1 M_2 => if r1 ≤ x2 then
      hm_st M_2 37 6 ((M_2 37 6) + x1) (fun M_5 => some M_5)
    else
      hm_bI (f_Pipe_tileFirst M_2 x2) (fun r6 M_7 => hm_bI (f_Pipe_tileLast M_7 x2) (fun r9 M_10 => hm_bV (f_Needs_spread M_10 42 r6 r9) (fun M_13 => hm_bI (f_Plan_measureTileInHand M_13 ) (fun r15 M_16 => f_Plan_measureTiles_4 n (if x1 < r15 then r15 else x1) (x2 + 1) M_16)))))
def f_Plan_measureTiles (M : hm_M) : Option hm_M :=
  f_Plan_measureTiles_4 1000 0 0 M
def f_Plan_askInlineSources_66 (k12 : Int32 → Nat → Int32 → hm_M → Option hm_M) (x1 : Int32) (a2 : Nat) (x3 : Int32) (M : hm_M) : Option hm_M :=
  k12 x1 a2 (x3 + 1) M
def f_Plan_askInlineSources_12 : Nat → Int32 → Nat → Int32 → hm_M → Option hm_M
  | 0, _, _, _, _ => none
  | n + 1, x1, a2, x3, M =>
    if (M a2 3) ≤ x3 then
      some M
    else
      hm_gd (hm_ix x3 4) (if (M (a2 + 1) x3.toNatClampNeg) = (-1) then
        f_Plan_askInlineSources_66 (fun x1 a2 x3 M => f_Plan_askInlineSources_12 n x1 a2 x3 M) x1 a2 x3 M
      else
        hm_gd (hm_ix (M (a2 + 1) x3.toNatClampNeg) 8) (if (M (5 + 4 * (M (a2 + 1) x3.toNatClampNeg).toNatClampNeg) 2) = 0 then
          hm_gd (hm_ix (M (a2 + 1) x3.toNatClampNeg) 8) (hm_gd (hm_ix x1 8) (hm_gd (hm_ix (M (a2 + 1) x3.toNatClampNeg) 8) (hm_st M 47 (M (a2 + 1) x3.toNatClampNeg).toNatClampNeg ((M 47 (M (a2 + 1) x3.toNatClampNeg).toNatClampNeg) + (M 47 x1.toNatClampNeg)) (fun M_9 => f_Plan_askInlineSources_66 (fun x1 a2 x3 M => f_Plan_askInlineSources_12 n x1 a2 x3 M) x1 a2 x3 M_9))))
        else
          f_Plan_askInlineSources_66 (fun x1 a2 x3 M => f_Plan_askInlineSources_12 n x1 a2 x3 M) x1 a2 x3 M))
def f_Plan_askInlineSources (M : hm_M) (x1 : Int32) : Option hm_M :=
  hm_gd (hm_ix x1 8) (f_Plan_askInlineSources_12 1000 x1 (5 + 4 * x1.toNatClampNeg) 0 M)
def f_Plan_measureInlines_13 : Nat → Int32 → hm_M → Option hm_M
  | 0, _, _ => none
  | n + 1, x1, M =>
    if x1 < 0 then
      some M
    else
      hm_gd (hm_ix x1 8) (hm_st M 37 5 ((M 37 5) + (M 47 x1.toNatClampNeg)) (fun M_3 => hm_bV (f_Plan_askInlineSources M_3 x1) (fun M_5 => f_Plan_measureInlines_13 n (x1 + (-1)) M_5)))
def f_Plan_measureInlines (M : hm_M) : Option hm_M :=
  hm_st M 37 5 0 (fun M_1 => f_Plan_measureInlines_13 1000 (M_1 1 5) M_1)
def f_Plan_draw_101 (y0 : Int32) (M : hm_M) : Option (Int32 × hm_M) :=
  some (y0, M)
def f_Plan_draw (M : hm_M) : Option (Int32 × hm_M) :=
  if (M 1 5) = (-1) then
    some ((-100), M)
  else
    hm_bV (f_Needs_spread M 38 0 ((M 1 6) - 1)) (fun M_3 => hm_bI (f_Plan_leastRootThatAsksTiled M_3 ) (fun r5 M_6 => if r5 < 0 then
      hm_bV (f_Arrays_fill M_6 47 0) (fun M_10 => hm_st M_10 37 6 0 (fun M_12 => hm_st M_12 37 7 0 (fun M_13 => hm_bV (f_Plan_measureOutput M_13 ) (fun M_15 => hm_bV (f_Plan_measureRoots M_15 ) (fun M_18 => hm_bV (f_Plan_measureTiles M_18 ) (fun M_21 => hm_bV (f_Plan_measureInlines M_21 ) (fun M_24 => if (M_24 37 5) ≤ 4000 then
        f_Plan_draw_101 0 M_24
      else
        f_Plan_draw_101 (-300) M_24)))))))
    else
      some (((-200) - r5), M_6)))
def f_Runner_sourceValue_61 (rl : Nat) (rc : hm_M → Int32 → Int32 → Option (Int32 × hm_M)) (y0 : Int32) (M : hm_M) : Option (Int32 × hm_M) :=
  some (y0, M)
def f_Runner_sourceValue (rl : Nat) (rc : hm_M → Int32 → Int32 → Option (Int32 × hm_M)) (M : hm_M) (x1 : Int32) (x2 : Int32) : Option (Int32 × hm_M) :=
  if x1 = (-1) then
    hm_gd (hm_ix (if 0 < (if x2 < ((nI rl) - 1) then x2 else ((nI rl) - 1)) then (if x2 < ((nI rl) - 1) then x2 else ((nI rl) - 1)) else 0) rl) (some ((M 4 (if 0 < (if x2 < ((nI rl) - 1) then x2 else ((nI rl) - 1)) then (if x2 < ((nI rl) - 1) then x2 else ((nI rl) - 1)) else 0).toNatClampNeg), M))
  else
    hm_gd (hm_ix x1 8) (if (M 53 x1.toNatClampNeg) = 0 then
      hm_bI (rc M x1 x2) (fun r4 M_5 => f_Runner_sourceValue_61 rl rc r4 M_5)
    else
      hm_gd (hm_ix x1 8) (hm_gd (hm_ix (x2 + 28) 88) (f_Runner_sourceValue_61 rl rc (M (55 + x1.toNatClampNeg) (x2 + 28).toNatClampNeg) M)))
def f_Runner_workOutB_19 (rl : Nat) (rc : hm_M → Int32 → Int32 → Option (Int32 × hm_M)) : Nat → Int32 → Nat → Int32 → Int32 → hm_M → Option (Int32 × hm_M)
  | 0, _, _, _, _, _ => none
  | n + 1, x2, a3, x4, x5, M =>
    if (M a3 3) ≤ x5 then
      hm_bI (f_Stage_finished M a3 x4) (fun r2 M_3 => some (r2, M_3))
    else
      hm_gd (hm_ix x5 4) (hm_gd (hm_ix x5 4) (hm_gd (hm_ix x5 4) (hm_bI (f_Runner_sourceValue rl rc M (M (a3 + 1) x5.toNatClampNeg) (x2 + (M (a3 + 2) x5.toNatClampNeg))) (fun r8 M_9 => f_Runner_workOutB_19 rl rc n x2 a3 (x4 + ((M (a3 + 3) x5.toNatClampNeg) * r8)) (x5 + 1) M_9))))
def f_Runner_workOutB (rl : Nat) (rc : hm_M → Int32 → Int32 → Option (Int32 × hm_M)) (M : hm_M) (x1 : Int32) (x2 : Int32) : Option (Int32 × hm_M) :=
  hm_gd (hm_ix x1 8) (f_Runner_workOutB_19 rl rc 1000 x2 (5 + 4 * x1.toNatClampNeg) (M (5 + 4 * x1.toNatClampNeg) 0) 0 M)
def f_Runner_workOut (rl : Nat) : Nat → hm_M → Int32 → Int32 → Option (Int32 × hm_M)
  | 0 => fun _ _ _ => none
  | n + 1 => fun M x1 x2 => f_Runner_workOutB rl (f_Runner_workOut rl n) M x1 x2
def f_Runner_release_48 (k2 : Int32 → Int32 → hm_M → Option hm_M) (x1 : Int32) (x2 : Int32) (y1 : Int32) (y2 : Int32) (M : hm_M) : Option hm_M :=
  hm_gd (hm_ix y1 8) (hm_gd (decide (y2 = 0 ∨ y2 = 1)) (hm_st M 53 y1.toNatClampNeg y2 (fun M_3 => k2 x1 (x2 + 1) M_3)))
def f_Runner_release_47 (k2 : Int32 → Int32 → hm_M → Option hm_M) (x1 : Int32) (x2 : Int32) (y1 : Int32) (M : hm_M) : Option hm_M :=
  f_Runner_release_48 k2 x1 x2 y1 0 M
def f_Runner_release_2 : Nat → Int32 → Int32 → hm_M → Option hm_M
  | 0, _, _, _ => none
  | n + 1, x1, x2, M =>
    if (M 1 5) ≤ x2 then
      some M
    else
      hm_gd (hm_ix x2 8) (if (M 53 x2.toNatClampNeg) = 0 then
        f_Runner_release_47 (fun x1 x2 M => f_Runner_release_2 n x1 x2 M) x1 x2 x2 M
      else
        hm_gd (hm_ix x2 8) (if (M (5 + 4 * x2.toNatClampNeg) 2) = x1 then
          f_Runner_release_47 (fun x1 x2 M => f_Runner_release_2 n x1 x2 M) x1 x2 x2 M
        else
          f_Runner_release_48 (fun x1 x2 M => f_Runner_release_2 n x1 x2 M) x1 x2 x2 1 M))
def f_Runner_release (M : hm_M) (x1 : Int32) : Option hm_M :=
  f_Runner_release_2 1000 x1 0 M
def f_Runner_keep_92 (rl : Nat) (k2 : Nat → Int32 → Int32 → hm_M → Option hm_M) (a1 : Nat) (x2 : Int32) (x3 : Int32) (M : hm_M) : Option hm_M :=
  k2 a1 x2 (x3 + 1) M
def f_Runner_keep_49 (rl : Nat) (k2 : Nat → Int32 → Int32 → hm_M → Option hm_M) : Nat → Nat → Int32 → Int32 → Int32 → hm_M → Option hm_M
  | 0, _, _, _, _, _ => none
  | n + 1, a1, x2, x3, x4, M =>
    hm_gd (hm_ix x3 8) (if (M (a1 + 3) x3.toNatClampNeg) < x4 then
      hm_gd (hm_ix x3 8) (hm_st M 53 x3.toNatClampNeg 1 (fun M_4 => f_Runner_keep_92 rl k2 a1 x2 x3 M_4))
    else
      hm_gd (hm_ix x3 8) (hm_bI (f_Runner_workOut rl 9 M x3 x4) (fun r6 M_7 => hm_gd (hm_ix (x4 + 28) 88) (hm_st M_7 (55 + x3.toNatClampNeg) (x4 + 28).toNatClampNeg r6 (fun M_10 => f_Runner_keep_49 rl k2 n a1 x2 x3 (x4 + 1) M_10)))))
def f_Runner_keep_2 (rl : Nat) : Nat → Nat → Int32 → Int32 → hm_M → Option hm_M
  | 0, _, _, _, _ => none
  | n + 1, a1, x2, x3, M =>
    if (M 1 5) ≤ x3 then
      some M
    else
      hm_gd (hm_ix x3 8) (if (M (a1 + 1) x3.toNatClampNeg) = 0 then
        f_Runner_keep_92 rl (fun a1 x2 x3 M => f_Runner_keep_2 rl n a1 x2 x3 M) a1 x2 x3 M
      else
        hm_gd (hm_ix x3 8) (if (M (5 + 4 * x3.toNatClampNeg) 2) = x2 then
          hm_gd (hm_ix x3 8) (f_Runner_keep_49 rl (fun a1 x2 x3 M => f_Runner_keep_2 rl n a1 x2 x3 M) 1000 a1 x2 x3 (M (a1 + 2) x3.toNatClampNeg) M)
        else
          f_Runner_keep_92 rl (fun a1 x2 x3 M => f_Runner_keep_2 rl n a1 x2 x3 M) a1 x2 x3 M))
def f_Runner_keep (rl : Nat) (M : hm_M) (a1 : Nat) (x2 : Int32) : Option hm_M :=
  f_Runner_keep_2 rl 1000 a1 x2 0 M
def f_Runner_runTile_24 (rl : Nat) : Nat → Int32 → Int32 → hm_M → Option hm_M
  | 0, _, _, _ => none
  | n + 1, x2, x3, M =>
    if x2 < x3 then
      hm_bV (f_Runner_release M 2) (fun M_3 => some M_3)
    else
      hm_bI (f_Runner_workOut rl 9 M (M 1 5) x3) (fun r5 M_6 => hm_gd (hm_ix x3 32) (hm_st M_6 63 x3.toNatClampNeg r5 (fun M_9 => f_Runner_runTile_24 rl n x2 (x3 + 1) M_9)))
def f_Runner_runTile (rl : Nat) (M : hm_M) (x1 : Int32) (x2 : Int32) : Option hm_M :=
  hm_bV (f_Needs_spread M 49 x1 x2) (fun M_2 => hm_bV (f_Runner_keep rl M_2 49 2) (fun M_5 => f_Runner_runTile_24 rl 1000 x2 x1 M_5))
def f_Runner_runSchedule_8 (rl : Nat) : Nat → Int32 → hm_M → Option hm_M
  | 0, _, _ => none
  | n + 1, x2, M =>
    hm_bI (f_Pipe_tileCount M ) (fun r1 M_2 => if r1 ≤ x2 then
      hm_bV (f_Runner_release M_2 1) (fun M_6 => some M_6)
    else
      hm_bI (f_Pipe_tileFirst M_2 x2) (fun r8 M_9 => hm_bI (f_Pipe_tileLast M_9 x2) (fun r11 M_12 => hm_bV (f_Runner_runTile rl M_12 r8 r11) (fun M_15 => f_Runner_runSchedule_8 rl n (x2 + 1) M_15))))
def f_Runner_runSchedule (rl : Nat) (M : hm_M) (a1 : Nat) : Option hm_M :=
  hm_bV (f_Runner_keep rl M a1 1) (fun M_2 => f_Runner_runSchedule_8 rl 1000 0 M_2)
def f_SC_forgetCompiled (M : hm_M) : Option hm_M :=
  hm_st M 0 3 0 (fun M_1 => hm_st M_1 0 4 0 (fun M_2 => some M_2))
def f_SC_input_16 (rl : Nat) (M : hm_M) : Option (Int32 × hm_M) :=
  some ((-1), M)
def f_SC_input (rl : Nat) (M : hm_M) (x1 : Int32) (x2 : Int32) : Option (Int32 × hm_M) :=
  if x1 < 0 then
    f_SC_input_16 rl M
  else
    if x1 < (nI rl) then
      hm_gd (hm_ix x1 rl) (hm_st M 4 x1.toNatClampNeg x2 (fun M_4 => hm_bV (f_SC_forgetCompiled M_4 ) (fun M_6 => some (0, M_6))))
    else
      f_SC_input_16 rl M
def f_SC_stage_9 (M : hm_M) : Option (Int32 × hm_M) :=
  some ((-1), M)
def f_SC_stage (M : hm_M) (x1 : Int32) (x2 : Int32) : Option (Int32 × hm_M) :=
  if x2 < 0 then
    f_SC_stage_9 M
  else
    if x2 ≤ 3 then
      if (M 1 3) = 8 then
        some ((-2), M)
      else
        hm_bI (f_Pipe_addStage M x1 x2) (fun r4 M_5 => hm_bV (f_SC_forgetCompiled M_5 ) (fun M_8 => some (r4, M_8)))
    else
      f_SC_stage_9 M
def f_SC_tap_32 (M : hm_M) : Option (Int32 × hm_M) :=
  some ((-1), M)
def f_SC_tap (M : hm_M) (x1 : Int32) (x2 : Int32) (x3 : Int32) (x4 : Int32) : Option (Int32 × hm_M) :=
  hm_bI (f_Pipe_hasStage M x1) (fun r1 M_2 => if r1 = 0 then
    f_SC_tap_32 M_2
  else
    if x2 < (-1) then
      f_SC_tap_32 M_2
    else
      if x1 ≤ x2 then
        f_SC_tap_32 M_2
      else
        if x3 < (-4) then
          f_SC_tap_32 M_2
        else
          if x3 ≤ 4 then
            hm_gd (hm_ix x1 8) (if (M_2 (5 + 4 * x1.toNatClampNeg) 3) = 4 then
              some ((-2), M_2)
            else
              hm_bV (f_Stage_addTap M_2 (5 + 4 * x1.toNatClampNeg) x2 x3 x4) (fun M_12 => hm_bV (f_SC_forgetCompiled M_12 ) (fun M_15 => some ((M_15 (5 + 4 * x1.toNatClampNeg) 3), M_15))))
          else
            f_SC_tap_32 M_2)
def f_SC_mode_20 (M : hm_M) : Option (Int32 × hm_M) :=
  some ((-1), M)
def f_SC_mode (M : hm_M) (x1 : Int32) (x2 : Int32) : Option (Int32 × hm_M) :=
  hm_bI (f_Pipe_hasStage M x1) (fun r1 M_2 => if r1 = 0 then
    f_SC_mode_20 M_2
  else
    if x2 < 0 then
      f_SC_mode_20 M_2
    else
      if x2 ≤ 2 then
        hm_gd (hm_ix x1 8) (hm_st M_2 (5 + 4 * x1.toNatClampNeg) 2 x2 (fun M_8 => hm_bV (f_SC_forgetCompiled M_8 ) (fun M_10 => some (0, M_10))))
      else
        f_SC_mode_20 M_2)
def f_SC_tile_11 (M : hm_M) : Option (Int32 × hm_M) :=
  some ((-1), M)
def f_SC_tile (M : hm_M) (x1 : Int32) : Option (Int32 × hm_M) :=
  if x1 < 1 then
    f_SC_tile_11 M
  else
    if x1 ≤ 32 then
      hm_st M 1 4 x1 (fun M_3 => hm_bV (f_SC_forgetCompiled M_3 ) (fun M_5 => some (0, M_5)))
    else
      f_SC_tile_11 M
def f_SC_output_22 (M : hm_M) : Option (Int32 × hm_M) :=
  some ((-1), M)
def f_SC_output (M : hm_M) (x1 : Int32) (x2 : Int32) : Option (Int32 × hm_M) :=
  hm_bI (f_Pipe_hasStage M x1) (fun r1 M_2 => if r1 = 0 then
    f_SC_output_22 M_2
  else
    if x2 < 1 then
      f_SC_output_22 M_2
    else
      if x2 ≤ 32 then
        hm_st M_2 1 5 x1 (fun M_7 => hm_st M_7 1 6 x2 (fun M_8 => hm_bV (f_SC_forgetCompiled M_8 ) (fun M_10 => some (0, M_10))))
      else
        f_SC_output_22 M_2)
def f_SC_compile (M : hm_M) : Option (Int32 × hm_M) :=
  if (M 0 3) = 0 then
    hm_bI (f_Plan_draw M ) (fun r2 M_3 => if r2 = 0 then
      hm_st M_3 0 3 1 (fun M_6 => some ((M_6 37 5), M_6))
    else
      some (r2, M_3))
  else
    some ((-3), M)
def f_SC_run (rl : Nat) (M : hm_M) : Option (Int32 × hm_M) :=
  if (M 0 3) = 0 then
    some ((-3), M)
  else
    hm_bV (f_Runner_runSchedule rl M 38) (fun M_3 => hm_st M_3 0 4 1 (fun M_5 => hm_bI (f_Pipe_tileCount M_5 ) (fun r6 M_7 => some (r6, M_7))))
def f_SC_cell_22 (M : hm_M) : Option (Int64 × hm_M) :=
  some ((-1000000000000 : Int64), M)
def f_SC_cell (M : hm_M) (x1 : Int32) : Option (Int64 × hm_M) :=
  if (M 0 4) = 0 then
    f_SC_cell_22 M
  else
    if x1 < 0 then
      f_SC_cell_22 M
    else
      if x1 < (M 1 6) then
        hm_gd (hm_ix x1 32) (some ((M 63 x1.toNatClampNeg).toInt64, M))
      else
        f_SC_cell_22 M
def f_SC_at_37 (rl : Nat) (M : hm_M) : Option (Int64 × hm_M) :=
  some ((-1000000000000 : Int64), M)
def f_SC_at (rl : Nat) (M : hm_M) (x1 : Int32) (x2 : Int32) : Option (Int64 × hm_M) :=
  hm_bI (f_Pipe_hasStage M x1) (fun r1 M_2 => if r1 = 0 then
    f_SC_at_37 rl M_2
  else
    if x2 < (-100) then
      f_SC_at_37 rl M_2
    else
      if 100 < x2 then
        f_SC_at_37 rl M_2
      else
        hm_bI (f_Pipe_valuesWorkedOutFor M_2 x1) (fun r7 M_8 => if r7 ≤ 3000 then
          hm_bI (f_Runner_workOut rl 9 M_8 x1 x2) (fun r11 M_12 => some (r11.toInt64, M_12))
        else
          f_SC_at_37 rl M_8))
def f_SC_region_37 (M : hm_M) : Option (Int32 × hm_M) :=
  some ((-2000), M)
def f_SC_region_72 (y0 : Int32) (M : hm_M) : Option (Int32 × hm_M) :=
  some (y0, M)
def f_SC_region (M : hm_M) (x1 : Int32) (x2 : Int32) : Option (Int32 × hm_M) :=
  if (M 0 3) = 0 then
    some ((-1000), M)
  else
    hm_bI (f_Pipe_hasStage M x1) (fun r2 M_3 => if r2 = 0 then
      f_SC_region_37 M_3
    else
      hm_gd (hm_ix x1 8) (if (M_3 39 x1.toNatClampNeg) = 0 then
        f_SC_region_37 M_3
      else
        if x2 = 0 then
          hm_gd (hm_ix x1 8) (f_SC_region_72 (M_3 40 x1.toNatClampNeg) M_3)
        else
          hm_gd (hm_ix x1 8) (f_SC_region_72 (M_3 41 x1.toNatClampNeg) M_3)))
def f_SC_work_34 (y0 : Int32) (M : hm_M) : Option (Int32 × hm_M) :=
  some (y0, M)
def f_SC_work (M : hm_M) (x1 : Int32) : Option (Int32 × hm_M) :=
  hm_bI (f_Pipe_hasStage M x1) (fun r1 M_2 => if r1 = 0 then
    some ((-1), M_2)
  else
    if (M_2 0 3) = 0 then
      f_SC_work_34 (-3) M_2
    else
      hm_gd (hm_ix x1 8) (f_SC_work_34 (M_2 47 x1.toNatClampNeg) M_2))
def f_SC_count_64 (y0 : Int32) (M : hm_M) : Option (Int32 × hm_M) :=
  some (y0, M)
def f_SC_count_83 (y0 : Int32) (M : hm_M) : Option (Int32 × hm_M) :=
  some (y0, M)
def f_SC_count_102 (y0 : Int32) (M : hm_M) : Option (Int32 × hm_M) :=
  some (y0, M)
def f_SC_count_121 (y0 : Int32) (M : hm_M) : Option (Int32 × hm_M) :=
  some (y0, M)
def f_SC_count_140 (y0 : Int32) (M : hm_M) : Option (Int32 × hm_M) :=
  some (y0, M)
def f_SC_count_159 (y0 : Int32) (M : hm_M) : Option (Int32 × hm_M) :=
  some (y0, M)
def f_SC_count (M : hm_M) (x1 : Int32) : Option (Int32 × hm_M) :=
  if x1 = 0 then
    some ((M 1 3), M)
  else if x1 = 1 then
    if (M 0 3) = 0 then
      f_SC_count_64 0 M
    else
      f_SC_count_64 1 M
  else if x1 = 2 then
    if (M 0 3) = 0 then
      f_SC_count_83 0 M
    else
      f_SC_count_83 (M 37 6) M
  else if x1 = 3 then
    if (M 0 3) = 0 then
      f_SC_count_102 0 M
    else
      hm_bI (f_Plan_usedCount M ) (fun r8 M_9 => f_SC_count_102 r8 M_9)
  else if x1 = 4 then
    if (M 0 3) = 0 then
      f_SC_count_121 0 M
    else
      hm_bI (f_Pipe_tileCount M ) (fun r13 M_14 => f_SC_count_121 r13 M_14)
  else if x1 = 5 then
    if (M 0 3) = 0 then
      f_SC_count_140 0 M
    else
      f_SC_count_140 (M 37 7) M
  else if x1 = 6 then
    if (M 0 3) = 0 then
      f_SC_count_159 0 M
    else
      f_SC_count_159 (M 37 5) M
  else some ((-1), M)
