def f_Mo_no_17 (y0 : Int32) (M : mo_M) : Option (Int32 × mo_M) :=
  hm_gd (decide (y0 = 0 ∨ y0 = 1)) (some (y0, M))
def f_Mo_no_12 (M : mo_M) : Option (Int32 × mo_M) :=
  f_Mo_no_17 1 M
def f_Mo_no (M : mo_M) (x1 : Int32) : Option (Int32 × mo_M) :=
  if x1 < 0 then
    f_Mo_no_12 M
  else
    if x1 < (M.1 0 9) then
      f_Mo_no_17 0 M
    else
      f_Mo_no_12 M
def f_Mo_changed (M : mo_M) (x1 : Int32) : Option (Int32 × mo_M) :=
  mo_st M 0 13 0 (fun M_1 => mo_st M_1 0 14 0 (fun M_2 => some (x1, M_2)))
def f_Mo_input_12 (M : mo_M) : Option (Int32 × mo_M) :=
  some ((-1), M)
def f_Mo_input (M : mo_M) (x1 : Int32) (x2 : Int32) : Option (Int32 × mo_M) :=
  if x1 < 0 then
    f_Mo_input_12 M
  else
    if x1 < (M.1 0 0) then
      hm_gd (hm_ix x1 24) (mo_st M 1 x1.toNatClampNeg x2 (fun M_4 => hm_bI (f_Mo_changed M_4 0) (fun r5 M_6 => some (r5, M_6))))
    else
      f_Mo_input_12 M
def f_Mo_stage_9 (M : mo_M) : Option (Int32 × mo_M) :=
  some ((-1), M)
def f_Mo_stage (M : mo_M) (x1 : Int32) (x2 : Int32) : Option (Int32 × mo_M) :=
  if x2 < 0 then
    f_Mo_stage_9 M
  else
    if x2 ≤ 3 then
      if (M.1 0 9) = 8 then
        some ((-2), M)
      else
        hm_gd (hm_ix (M.1 0 9) 8) (mo_st M 2 (M.1 0 9).toNatClampNeg x1 (fun M_5 => hm_gd (hm_ix (M_5.1 0 9) 8) (mo_st M_5 3 (M_5.1 0 9).toNatClampNeg x2 (fun M_7 => mo_st M_7 0 9 ((M_7.1 0 9) + 1) (fun M_8 => hm_bI (f_Mo_changed M_8 ((M_8.1 0 9) - 1)) (fun r9 M_10 => some (r9, M_10)))))))
    else
      f_Mo_stage_9 M
def f_Mo_tap_29 (M : mo_M) : Option (Int32 × mo_M) :=
  some ((-1), M)
def f_Mo_tap (M : mo_M) (x1 : Int32) (x2 : Int32) (x3 : Int32) (x4 : Int32) : Option (Int32 × mo_M) :=
  hm_bI (f_Mo_no M x1) (fun r1 M_2 => if r1 = 0 then
    if x2 < (-1) then
      f_Mo_tap_29 M_2
    else
      if x1 ≤ x2 then
        f_Mo_tap_29 M_2
      else
        if x3 < (-4) then
          f_Mo_tap_29 M_2
        else
          if x3 ≤ 4 then
            hm_gd (hm_ix x1 8) (if (M_2.1 8 x1.toNatClampNeg) = 4 then
              some ((-2), M_2)
            else
              hm_gd (hm_ix x1 8) (hm_gd (hm_ix ((x1 * 4) + (M_2.1 8 x1.toNatClampNeg)) 32) (mo_st M_2 5 ((x1 * 4) + (M_2.1 8 x1.toNatClampNeg)).toNatClampNeg x2 (fun M_13 => hm_gd (hm_ix ((x1 * 4) + (M_2.1 8 x1.toNatClampNeg)) 32) (mo_st M_13 6 ((x1 * 4) + (M_2.1 8 x1.toNatClampNeg)).toNatClampNeg x3 (fun M_15 => hm_gd (hm_ix ((x1 * 4) + (M_2.1 8 x1.toNatClampNeg)) 32) (mo_st M_15 7 ((x1 * 4) + (M_2.1 8 x1.toNatClampNeg)).toNatClampNeg x4 (fun M_17 => hm_gd (hm_ix x1 8) (hm_gd (hm_ix x1 8) (mo_st M_17 8 x1.toNatClampNeg ((M_17.1 8 x1.toNatClampNeg) + 1) (fun M_20 => hm_gd (hm_ix x1 8) (hm_bI (f_Mo_changed M_20 (M_20.1 8 x1.toNatClampNeg)) (fun r22 M_23 => some (r22, M_23))))))))))))))
          else
            f_Mo_tap_29 M_2
  else
    f_Mo_tap_29 M_2)
def f_Mo_mode_17 (M : mo_M) : Option (Int32 × mo_M) :=
  some ((-1), M)
def f_Mo_mode (M : mo_M) (x1 : Int32) (x2 : Int32) : Option (Int32 × mo_M) :=
  hm_bI (f_Mo_no M x1) (fun r1 M_2 => if r1 = 0 then
    if x2 < 0 then
      f_Mo_mode_17 M_2
    else
      if x2 ≤ 2 then
        hm_gd (hm_ix x1 8) (mo_st M_2 4 x1.toNatClampNeg x2 (fun M_8 => hm_bI (f_Mo_changed M_8 0) (fun r9 M_10 => some (r9, M_10))))
      else
        f_Mo_mode_17 M_2
  else
    f_Mo_mode_17 M_2)
def f_Mo_tile_11 (M : mo_M) : Option (Int32 × mo_M) :=
  some ((-1), M)
def f_Mo_tile (M : mo_M) (x1 : Int32) : Option (Int32 × mo_M) :=
  if x1 < 1 then
    f_Mo_tile_11 M
  else
    if x1 ≤ 32 then
      mo_st M 0 10 x1 (fun M_3 => hm_bI (f_Mo_changed M_3 0) (fun r4 M_5 => some (r4, M_5)))
    else
      f_Mo_tile_11 M
def f_Mo_output_19 (M : mo_M) : Option (Int32 × mo_M) :=
  some ((-1), M)
def f_Mo_output (M : mo_M) (x1 : Int32) (x2 : Int32) : Option (Int32 × mo_M) :=
  hm_bI (f_Mo_no M x1) (fun r1 M_2 => if r1 = 0 then
    if x2 < 1 then
      f_Mo_output_19 M_2
    else
      if x2 ≤ 32 then
        mo_st M_2 0 11 x1 (fun M_7 => mo_st M_7 0 12 x2 (fun M_8 => hm_bI (f_Mo_changed M_8 0) (fun r9 M_10 => some (r9, M_10))))
      else
        f_Mo_output_19 M_2
  else
    f_Mo_output_19 M_2)
def f_Mo_finished_19 (y0 : Int32) (M : mo_M) : Option (Int32 × mo_M) :=
  some (y0, M)
def f_Mo_finished_54 (y0 : Int32) (M : mo_M) : Option (Int32 × mo_M) :=
  some (y0, M)
def f_Mo_finished_53 (x2 : Int32) (M : mo_M) : Option (Int32 × mo_M) :=
  f_Mo_finished_54 x2 M
def f_Mo_finished (M : mo_M) (x1 : Int32) (x2 : Int32) : Option (Int32 × mo_M) :=
  hm_gd (hm_ix x1 8) (if (M.1 3 x1.toNatClampNeg) = 1 then
    if x2 ≤ 0 then
      f_Mo_finished_19 0 M
    else
      f_Mo_finished_19 x2 M
  else
    hm_gd (hm_ix x1 8) (if (M.1 3 x1.toNatClampNeg) = 2 then
      some ((x2 >>> ((1 : Int32) &&& 31)), M)
    else
      hm_gd (hm_ix x1 8) (if (M.1 3 x1.toNatClampNeg) = 3 then
        if 0 ≤ x2 then
          f_Mo_finished_53 x2 M
        else
          f_Mo_finished_54 (-x2) M
      else
        f_Mo_finished_53 x2 M)))
def f_Mo_given_30 (y1 : Int32) (M : mo_M) : Option (Int32 × mo_M) :=
  hm_gd (hm_ix y1 24) (some ((M.1 1 y1.toNatClampNeg), M))
def f_Mo_given (M : mo_M) (x1 : Int32) : Option (Int32 × mo_M) :=
  if 0 ≤ x1 then
    if x1 < (M.1 0 0) then
      f_Mo_given_30 x1 M
    else
      f_Mo_given_30 ((M.1 0 0) - 1) M
  else
    f_Mo_given_30 0 M
def f_Mo_valueAt_117 (k2 : Int32 → Int32 → Int32 → mo_M → Option (Int32 × mo_M)) (k19 : Int32 → Int32 → Int32 → Int32 → Int32 → mo_M → Option (Int32 × mo_M)) (k39 : Int32 → Int32 → Int32 → Int32 → Int32 → Int32 → Int32 → mo_M → Option (Int32 × mo_M)) (x1 : Int32) (x2 : Int32) (x3 : Int32) (x4 : Int32) (x5 : Int32) (x7 : Int32) (y0 : Int32) (y1 : Int32) (y2 : Int32) (M : mo_M) : Option (Int32 × mo_M) :=
  k39 x1 x2 x3 x4 x5 (y0 + (y1 * y2)) (x7 + 1) M
def f_Mo_valueAt_39 (k2 : Int32 → Int32 → Int32 → mo_M → Option (Int32 × mo_M)) (k19 : Int32 → Int32 → Int32 → Int32 → Int32 → mo_M → Option (Int32 × mo_M)) : Nat → Int32 → Int32 → Int32 → Int32 → Int32 → Int32 → Int32 → mo_M → Option (Int32 × mo_M)
  | 0, _, _, _, _, _, _, _, _ => none
  | n + 1, x1, x2, x3, x4, x5, x6, x7, M =>
    hm_gd (hm_ix x3 8) (if ((x3 * 4) + (M.1 8 x3.toNatClampNeg)) ≤ x7 then
      hm_bI (f_Mo_finished M x3 x6) (fun r3 M_4 => hm_gd (hm_ix (((x3 * 61) + 30) + x5) 488) (mo_st M_4 10 (((x3 * 61) + 30) + x5).toNatClampNeg r3 (fun M_7 => k19 x1 x2 x3 x4 (x5 + 1) M_7)))
    else
      hm_gd (hm_ix x7 32) (hm_gd (hm_ix x7 32) (hm_gd (hm_ix x7 32) (if 0 ≤ (M.1 5 x7.toNatClampNeg) then
        hm_gd (hm_ix x7 32) (hm_gd (hm_ix ((((M.1 5 x7.toNatClampNeg) * 61) + 30) + (x5 + (M.1 6 x7.toNatClampNeg))) 488) (f_Mo_valueAt_117 k2 k19 (fun x1 x2 x3 x4 x5 x6 x7 M => f_Mo_valueAt_39 k2 k19 n x1 x2 x3 x4 x5 x6 x7 M) x1 x2 x3 x4 x5 x7 x6 (M.1 7 x7.toNatClampNeg) (M.1 10 ((((M.1 5 x7.toNatClampNeg) * 61) + 30) + (x5 + (M.1 6 x7.toNatClampNeg))).toNatClampNeg) M))
      else
        hm_bI (f_Mo_given M (x2 + (x5 + (M.1 6 x7.toNatClampNeg)))) (fun r14 M_15 => f_Mo_valueAt_117 k2 k19 (fun x1 x2 x3 x4 x5 x6 x7 M => f_Mo_valueAt_39 k2 k19 n x1 x2 x3 x4 x5 x6 x7 M) x1 x2 x3 x4 x5 x7 x6 (M.1 7 x7.toNatClampNeg) r14 M_15)))))
def f_Mo_valueAt_19 (k2 : Int32 → Int32 → Int32 → mo_M → Option (Int32 × mo_M)) : Nat → Int32 → Int32 → Int32 → Int32 → Int32 → mo_M → Option (Int32 × mo_M)
  | 0, _, _, _, _, _, _ => none
  | n + 1, x1, x2, x3, x4, x5, M =>
    if x4 < x5 then
      k2 x1 x2 (x3 + 1) M
    else
      hm_gd (hm_ix x3 8) (f_Mo_valueAt_39 k2 (fun x1 x2 x3 x4 x5 M => f_Mo_valueAt_19 k2 n x1 x2 x3 x4 x5 M) 1000 x1 x2 x3 x4 x5 (M.1 2 x3.toNatClampNeg) (x3 * 4) M)
def f_Mo_valueAt_2 : Nat → Int32 → Int32 → Int32 → mo_M → Option (Int32 × mo_M)
  | 0, _, _, _, _ => none
  | n + 1, x1, x2, x3, M =>
    if x1 < x3 then
      hm_gd (hm_ix ((x1 * 61) + 30) 488) (some ((M.1 10 ((x1 * 61) + 30).toNatClampNeg), M))
    else
      f_Mo_valueAt_19 (fun x1 x2 x3 M => f_Mo_valueAt_2 n x1 x2 x3 M) 1000 x1 x2 x3 (4 * (x1 - x3)) (-(4 * (x1 - x3))) M
def f_Mo_valueAt (M : mo_M) (x1 : Int32) (x2 : Int32) : Option (Int32 × mo_M) :=
  f_Mo_valueAt_2 1000 x1 x2 0 M
def f_Mo_at_20 (M : mo_M) : Option (Int64 × mo_M) :=
  some ((-1000000000000 : Int64), M)
def f_Mo_at_89 (k26 : Int32 → Int32 → Int32 → mo_M → Option (Int64 × mo_M)) (k43 : Int32 → Int32 → Int32 → Int32 → mo_M → Option (Int64 × mo_M)) (x1 : Int32) (x2 : Int32) (x3 : Int32) (x4 : Int32) (M : mo_M) : Option (Int64 × mo_M) :=
  k43 x1 x2 x3 (x4 + 1) M
def f_Mo_at_43 (k26 : Int32 → Int32 → Int32 → mo_M → Option (Int64 × mo_M)) : Nat → Int32 → Int32 → Int32 → Int32 → mo_M → Option (Int64 × mo_M)
  | 0, _, _, _, _, _ => none
  | n + 1, x1, x2, x3, x4, M =>
    hm_gd (hm_ix x3 8) (if ((x3 * 4) + (M.1 8 x3.toNatClampNeg)) ≤ x4 then
      k26 x1 x2 (x3 + 1) M
    else
      hm_gd (hm_ix x4 32) (if (M.1 5 x4.toNatClampNeg) < 0 then
        f_Mo_at_89 k26 (fun x1 x2 x3 x4 M => f_Mo_at_43 k26 n x1 x2 x3 x4 M) x1 x2 x3 x4 M
      else
        hm_gd (hm_ix x3 8) (hm_gd (hm_ix x4 32) (hm_gd (hm_ix (M.1 5 x4.toNatClampNeg) 8) (hm_gd (hm_ix x3 8) (mo_sl M 14 x3.toNatClampNeg ((M.2 14 x3.toNatClampNeg) + (M.2 14 (M.1 5 x4.toNatClampNeg).toNatClampNeg)) (fun M_9 => f_Mo_at_89 k26 (fun x1 x2 x3 x4 M => f_Mo_at_43 k26 n x1 x2 x3 x4 M) x1 x2 x3 x4 M_9)))))))
def f_Mo_at_127 (y0 : Int64) (M : mo_M) : Option (Int64 × mo_M) :=
  some (y0, M)
def f_Mo_at_26 : Nat → Int32 → Int32 → Int32 → mo_M → Option (Int64 × mo_M)
  | 0, _, _, _, _ => none
  | n + 1, x1, x2, x3, M =>
    if x1 < x3 then
      hm_gd (hm_ix x1 8) (if (lg_cmp (M.2 14 x1.toNatClampNeg) (3000 : Int64)) ≤ 0 then
        hm_bI (f_Mo_valueAt M x1 x2) (fun r4 M_5 => f_Mo_at_127 r4.toInt64 M_5)
      else
        f_Mo_at_127 (-1000000000000 : Int64) M)
    else
      hm_gd (hm_ix x3 8) (mo_sl M 14 x3.toNatClampNeg (1 : Int64) (fun M_8 => f_Mo_at_43 (fun x1 x2 x3 M => f_Mo_at_26 n x1 x2 x3 M) 1000 x1 x2 x3 (x3 * 4) M_8))
def f_Mo_at (M : mo_M) (x1 : Int32) (x2 : Int32) : Option (Int64 × mo_M) :=
  hm_bI (f_Mo_no M x1) (fun r1 M_2 => if r1 = 0 then
    if x2 < (-100) then
      f_Mo_at_20 M_2
    else
      if x2 ≤ 100 then
        f_Mo_at_26 1000 x1 x2 0 M_2
      else
        f_Mo_at_20 M_2
  else
    f_Mo_at_20 M_2)
def f_Mo_spread_93 (x3 : Int32) (M : mo_M) : Option mo_M :=
  hm_gd (hm_ix x3 8) (mo_st M 11 x3.toNatClampNeg 1 (fun M_2 => some M_2))
def f_Mo_spread_85 (x3 : Int32) (x5 : Int32) (M : mo_M) : Option mo_M :=
  hm_gd (hm_ix x3 8) (mo_st M 13 x3.toNatClampNeg x5 (fun M_2 => f_Mo_spread_93 x3 M_2))
def f_Mo_spread_65 (x3 : Int32) (x5 : Int32) (M : mo_M) : Option mo_M :=
  hm_gd (hm_ix x3 8) (if (M.1 11 x3.toNatClampNeg) = 0 then
    f_Mo_spread_85 x3 x5 M
  else
    hm_gd (hm_ix x3 8) (if x5 ≤ (M.1 13 x3.toNatClampNeg) then
      f_Mo_spread_93 x3 M
    else
      f_Mo_spread_85 x3 x5 M))
def f_Mo_spread_57 (x3 : Int32) (x4 : Int32) (x5 : Int32) (M : mo_M) : Option mo_M :=
  hm_gd (hm_ix x3 8) (mo_st M 12 x3.toNatClampNeg x4 (fun M_2 => f_Mo_spread_65 x3 x5 M_2))
def f_Mo_spread (M : mo_M) (x1 : Int32) (x2 : Int32) : Option mo_M :=
  hm_gd (hm_ix x2 32) (hm_gd (hm_ix x1 8) (hm_gd (hm_ix x2 32) (hm_gd (hm_ix x1 8) (hm_gd (hm_ix x2 32) (hm_gd (hm_ix (M.1 5 x2.toNatClampNeg) 8) (if (M.1 11 (M.1 5 x2.toNatClampNeg).toNatClampNeg) = 0 then
    f_Mo_spread_57 (M.1 5 x2.toNatClampNeg) ((M.1 12 x1.toNatClampNeg) + (M.1 6 x2.toNatClampNeg)) ((M.1 13 x1.toNatClampNeg) + (M.1 6 x2.toNatClampNeg)) M
  else
    hm_gd (hm_ix (M.1 5 x2.toNatClampNeg) 8) (if (M.1 12 (M.1 5 x2.toNatClampNeg).toNatClampNeg) ≤ ((M.1 12 x1.toNatClampNeg) + (M.1 6 x2.toNatClampNeg)) then
      f_Mo_spread_65 (M.1 5 x2.toNatClampNeg) ((M.1 13 x1.toNatClampNeg) + (M.1 6 x2.toNatClampNeg)) M
    else
      f_Mo_spread_57 (M.1 5 x2.toNatClampNeg) ((M.1 12 x1.toNatClampNeg) + (M.1 6 x2.toNatClampNeg)) ((M.1 13 x1.toNatClampNeg) + (M.1 6 x2.toNatClampNeg)) M)))))))
def f_Mo_need_26 (k2 : Int32 → Int32 → Int32 → mo_M → Option mo_M) (x1 : Int32) (x2 : Int32) (x3 : Int32) (y1 : Int32) (y2 : Int32) (M : mo_M) : Option mo_M :=
  hm_gd (hm_ix y1 8) (hm_gd (decide (y2 = 0 ∨ y2 = 1)) (mo_st M 11 y1.toNatClampNeg y2 (fun M_3 => k2 x1 x2 (x3 + 1) M_3)))
def f_Mo_need_108 (k58 : Int32 → mo_M → Option mo_M) (k67 : Int32 → Int32 → mo_M → Option mo_M) (x3 : Int32) (x4 : Int32) (M : mo_M) : Option mo_M :=
  k67 x3 (x4 + 1) M
def f_Mo_need_67 (k58 : Int32 → mo_M → Option mo_M) : Nat → Int32 → Int32 → mo_M → Option mo_M
  | 0, _, _, _ => none
  | n + 1, x3, x4, M =>
    hm_gd (hm_ix x3 8) (if ((x3 * 4) + (M.1 8 x3.toNatClampNeg)) ≤ x4 then
      k58 (x3 + (-1)) M
    else
      hm_gd (hm_ix x3 8) (if (M.1 11 x3.toNatClampNeg) = 0 then
        f_Mo_need_108 k58 (fun x3 x4 M => f_Mo_need_67 k58 n x3 x4 M) x3 x4 M
      else
        hm_gd (hm_ix x4 32) (if (M.1 5 x4.toNatClampNeg) < 0 then
          f_Mo_need_108 k58 (fun x3 x4 M => f_Mo_need_67 k58 n x3 x4 M) x3 x4 M
        else
          hm_bV (f_Mo_spread M x3 x4) (fun M_8 => f_Mo_need_108 k58 (fun x3 x4 M => f_Mo_need_67 k58 n x3 x4 M) x3 x4 M_8))))
def f_Mo_need_58 : Nat → Int32 → mo_M → Option mo_M
  | 0, _, _ => none
  | n + 1, x3, M =>
    if x3 < 0 then
      some M
    else
      f_Mo_need_67 (fun x3 M => f_Mo_need_58 n x3 M) 1000 x3 (x3 * 4) M
def f_Mo_need_2 : Nat → Int32 → Int32 → Int32 → mo_M → Option mo_M
  | 0, _, _, _, _ => none
  | n + 1, x1, x2, x3, M =>
    if 8 ≤ x3 then
      hm_gd (hm_ix (M.1 0 11) 8) (mo_st M 12 (M.1 0 11).toNatClampNeg x1 (fun M_3 => hm_gd (hm_ix (M_3.1 0 11) 8) (mo_st M_3 13 (M_3.1 0 11).toNatClampNeg x2 (fun M_5 => f_Mo_need_58 1000 (M_5.1 0 11) M_5))))
    else
      if x3 = (M.1 0 11) then
        f_Mo_need_26 (fun x1 x2 x3 M => f_Mo_need_2 n x1 x2 x3 M) x1 x2 x3 x3 1 M
      else
        f_Mo_need_26 (fun x1 x2 x3 M => f_Mo_need_2 n x1 x2 x3 M) x1 x2 x3 x3 0 M
def f_Mo_need (M : mo_M) (x1 : Int32) (x2 : Int32) : Option mo_M :=
  f_Mo_need_2 1000 x1 x2 0 M
def f_Mo_tiles (M : mo_M) : Option (Int32 × mo_M) :=
  hm_gd (decide (¬ (M.1 0 10) = 0)) (some (((((M.1 0 12) + (M.1 0 10)) - 1) / (M.1 0 10)), M))
def f_Mo_needTile_47 (y1 : Int32) (y2 : Int32) (M : mo_M) : Option mo_M :=
  hm_bV (f_Mo_need M y1 y2) (fun M_2 => some M_2)
def f_Mo_needTile (M : mo_M) (x1 : Int32) : Option mo_M :=
  if (M.1 0 12) ≤ ((x1 * (M.1 0 10)) + (M.1 0 10)) then
    f_Mo_needTile_47 (x1 * (M.1 0 10)) ((M.1 0 12) - 1) M
  else
    f_Mo_needTile_47 (x1 * (M.1 0 10)) (((x1 * (M.1 0 10)) + (M.1 0 10)) - 1) M
def f_Mo_kept_32 (y0 : Int32) (M : mo_M) : Option (Int32 × mo_M) :=
  hm_gd (decide (y0 = 0 ∨ y0 = 1)) (some (y0, M))
def f_Mo_kept_31 (M : mo_M) : Option (Int32 × mo_M) :=
  f_Mo_kept_32 0 M
def f_Mo_kept (M : mo_M) (x1 : Int32) (x2 : Int32) : Option (Int32 × mo_M) :=
  hm_gd (hm_ix x1 8) (if (M.1 11 x1.toNatClampNeg) = 0 then
    f_Mo_kept_31 M
  else
    if x1 = (M.1 0 11) then
      f_Mo_kept_31 M
    else
      hm_gd (hm_ix x1 8) (if (M.1 4 x1.toNatClampNeg) = x2 then
        f_Mo_kept_32 1 M
      else
        f_Mo_kept_31 M))
def f_Mo_total_87 (k48 : Int32 → mo_M → Option (Int64 × mo_M)) (x1 : Int32) (M : mo_M) : Option (Int64 × mo_M) :=
  k48 (x1 + 1) M
def f_Mo_total_152 (k95 : Int32 → mo_M → Option (Int64 × mo_M)) (k110 : Int32 → Int32 → mo_M → Option (Int64 × mo_M)) (x1 : Int32) (x2 : Int32) (M : mo_M) : Option (Int64 × mo_M) :=
  k110 x1 (x2 + 1) M
def f_Mo_total_110 (k95 : Int32 → mo_M → Option (Int64 × mo_M)) : Nat → Int32 → Int32 → mo_M → Option (Int64 × mo_M)
  | 0, _, _, _ => none
  | n + 1, x1, x2, M =>
    if (M.1 0 11) ≤ x2 then
      k95 (x1 + 1) M
    else
      hm_bI (f_Mo_kept M x2 2) (fun r2 M_3 => if r2 = 0 then
        f_Mo_total_152 k95 (fun x1 x2 M => f_Mo_total_110 k95 n x1 x2 M) x1 x2 M_3
      else
        hm_gd (hm_ix x2 8) (hm_gd (hm_ix x2 8) (hm_gd (hm_ix x2 8) (hm_gd (hm_ix x2 8) (mo_sl M_3 14 x2.toNatClampNeg ((M_3.2 14 x2.toNatClampNeg) + (((M_3.1 13 x2.toNatClampNeg) - (M_3.1 12 x2.toNatClampNeg)) + 1).toInt64) (fun M_10 => f_Mo_total_152 k95 (fun x1 x2 M => f_Mo_total_110 k95 n x1 x2 M) x1 x2 M_10))))))
def f_Mo_total_250 (k171 : Int64 → Int32 → mo_M → Option (Int64 × mo_M)) (k180 : Int64 → Int32 → Int32 → mo_M → Option (Int64 × mo_M)) (x1 : Int64) (x3 : Int32) (x4 : Int32) (M : mo_M) : Option (Int64 × mo_M) :=
  k180 x1 x3 (x4 + 1) M
def f_Mo_total_180 (k171 : Int64 → Int32 → mo_M → Option (Int64 × mo_M)) : Nat → Int64 → Int32 → Int32 → mo_M → Option (Int64 × mo_M)
  | 0, _, _, _, _ => none
  | n + 1, x1, x3, x4, M =>
    hm_gd (hm_ix x3 8) (if ((x3 * 4) + (M.1 8 x3.toNatClampNeg)) ≤ x4 then
      hm_gd (hm_ix x3 8) (k171 (x1 + (M.2 14 x3.toNatClampNeg)) (x3 + (-1)) M)
    else
      hm_gd (hm_ix x3 8) (if (M.1 11 x3.toNatClampNeg) = 0 then
        f_Mo_total_250 k171 (fun x1 x3 x4 M => f_Mo_total_180 k171 n x1 x3 x4 M) x1 x3 x4 M
      else
        hm_gd (hm_ix x4 32) (if (M.1 5 x4.toNatClampNeg) < 0 then
          f_Mo_total_250 k171 (fun x1 x3 x4 M => f_Mo_total_180 k171 n x1 x3 x4 M) x1 x3 x4 M
        else
          hm_gd (hm_ix x4 32) (hm_gd (hm_ix (M.1 5 x4.toNatClampNeg) 8) (if (M.1 4 (M.1 5 x4.toNatClampNeg).toNatClampNeg) = 0 then
            hm_gd (hm_ix x4 32) (hm_gd (hm_ix (M.1 5 x4.toNatClampNeg) 8) (hm_gd (hm_ix x3 8) (hm_gd (hm_ix (M.1 5 x4.toNatClampNeg) 8) (mo_sl M 14 (M.1 5 x4.toNatClampNeg).toNatClampNeg ((M.2 14 (M.1 5 x4.toNatClampNeg).toNatClampNeg) + (M.2 14 x3.toNatClampNeg)) (fun M_15 => f_Mo_total_250 k171 (fun x1 x3 x4 M => f_Mo_total_180 k171 n x1 x3 x4 M) x1 x3 x4 M_15)))))
          else
            f_Mo_total_250 k171 (fun x1 x3 x4 M => f_Mo_total_180 k171 n x1 x3 x4 M) x1 x3 x4 M)))))
def f_Mo_total_171 : Nat → Int64 → Int32 → mo_M → Option (Int64 × mo_M)
  | 0, _, _, _ => none
  | n + 1, x1, x3, M =>
    if x3 < 0 then
      some (x1, M)
    else
      f_Mo_total_180 (fun x1 x3 M => f_Mo_total_171 n x1 x3 M) 1000 x1 x3 (x3 * 4) M
def f_Mo_total_95 : Nat → Int32 → mo_M → Option (Int64 × mo_M)
  | 0, _, _ => none
  | n + 1, x1, M =>
    hm_bI (f_Mo_tiles M ) (fun r1 M_2 => if r1 ≤ x1 then
      f_Mo_total_171 1000 (0 : Int64) (M_2.1 0 11) M_2
    else
      hm_bV (f_Mo_needTile M_2 x1) (fun M_6 => f_Mo_total_110 (fun x1 M => f_Mo_total_95 n x1 M) 1000 x1 0 M_6))
def f_Mo_total_48 : Nat → Int32 → mo_M → Option (Int64 × mo_M)
  | 0, _, _ => none
  | n + 1, x1, M =>
    if (M.1 0 11) ≤ x1 then
      f_Mo_total_95 1000 0 M
    else
      hm_bI (f_Mo_kept M x1 1) (fun r2 M_3 => if r2 = 0 then
        f_Mo_total_87 (fun x1 M => f_Mo_total_48 n x1 M) x1 M_3
      else
        hm_gd (hm_ix x1 8) (hm_gd (hm_ix x1 8) (hm_gd (hm_ix x1 8) (mo_sl M_3 14 x1.toNatClampNeg ((((M_3.1 13 x1.toNatClampNeg) - (M_3.1 12 x1.toNatClampNeg)) + 1).toInt64) (fun M_9 => f_Mo_total_87 (fun x1 M => f_Mo_total_48 n x1 M) x1 M_9)))))
def f_Mo_total_2 : Nat → Int32 → mo_M → Option (Int64 × mo_M)
  | 0, _, _ => none
  | n + 1, x1, M =>
    if 8 ≤ x1 then
      hm_gd (hm_ix (M.1 0 11) 8) (mo_sl M 14 (M.1 0 11).toNatClampNeg ((M.1 0 12).toInt64) (fun M_3 => hm_bV (f_Mo_need M_3 0 ((M_3.1 0 12) - 1)) (fun M_5 => f_Mo_total_48 1000 0 M_5)))
    else
      hm_gd (hm_ix x1 8) (mo_sl M 14 x1.toNatClampNeg (0 : Int64) (fun M_8 => f_Mo_total_2 n (x1 + 1) M_8))
def f_Mo_total (M : mo_M) : Option (Int64 × mo_M) :=
  f_Mo_total_2 1000 0 M
def f_Mo_leans_111 (k6 : Int32 → Int32 → Int32 → mo_M → Option (Int32 × mo_M)) (k69 : Int32 → Int32 → Int32 → Int32 → Int32 → mo_M → Option (Int32 × mo_M)) (x1 : Int32) (x2 : Int32) (x3 : Int32) (x4 : Int32) (x5 : Int32) (M : mo_M) : Option (Int32 × mo_M) :=
  k69 x1 x2 x3 x4 (x5 + 1) M
def f_Mo_leans_69 (k6 : Int32 → Int32 → Int32 → mo_M → Option (Int32 × mo_M)) : Nat → Int32 → Int32 → Int32 → Int32 → Int32 → mo_M → Option (Int32 × mo_M)
  | 0, _, _, _, _, _, _ => none
  | n + 1, x1, x2, x3, x4, x5, M =>
    hm_gd (hm_ix x3 8) (if ((x3 * 4) + (M.1 8 x3.toNatClampNeg)) ≤ x5 then
      k6 x1 x2 (x3 + (-1)) M
    else
      if x4 = 0 then
        f_Mo_leans_111 k6 (fun x1 x2 x3 x4 x5 M => f_Mo_leans_69 k6 n x1 x2 x3 x4 x5 M) x1 x2 x3 x4 x5 M
      else
        hm_gd (hm_ix x5 32) (if (M.1 5 x5.toNatClampNeg) < 0 then
          f_Mo_leans_111 k6 (fun x1 x2 x3 x4 x5 M => f_Mo_leans_69 k6 n x1 x2 x3 x4 x5 M) x1 x2 x3 x4 x5 M
        else
          hm_gd (hm_ix x5 32) (f_Mo_leans_111 k6 (fun x1 x2 x3 x4 x5 M => f_Mo_leans_69 k6 n x1 x2 x3 x4 x5 M) x1 (x2 ||| ((1 : Int32) <<< ((M.1 5 x5.toNatClampNeg) &&& 31))) x3 x4 x5 M)))
def f_Mo_leans_64 (k6 : Int32 → Int32 → Int32 → mo_M → Option (Int32 × mo_M)) (x1 : Int32) (x2 : Int32) (x3 : Int32) (x4 : Int32) (M : mo_M) : Option (Int32 × mo_M) :=
  f_Mo_leans_69 k6 1000 x1 x2 x3 x4 (x3 * 4) M
def f_Mo_leans_37 (k6 : Int32 → Int32 → Int32 → mo_M → Option (Int32 × mo_M)) (x1 : Int32) (x2 : Int32) (x3 : Int32) (y0 : Int32) (M : mo_M) : Option (Int32 × mo_M) :=
  if x1 ≤ x3 then
    f_Mo_leans_64 k6 x1 x2 x3 y0 M
  else
    if ((x2 >>> (x3 &&& 31)) &&& 1) = 0 then
      f_Mo_leans_64 k6 x1 x2 x3 y0 M
    else
      hm_gd (hm_ix x3 8) (if (M.1 4 x3.toNatClampNeg) = 2 then
        hm_gd (decide (1 = 0 ∨ 1 = 1)) (some (1, M))
      else
        f_Mo_leans_64 k6 x1 x2 x3 y0 M)
def f_Mo_leans_32 (k6 : Int32 → Int32 → Int32 → mo_M → Option (Int32 × mo_M)) (x1 : Int32) (x2 : Int32) (x3 : Int32) (M : mo_M) : Option (Int32 × mo_M) :=
  f_Mo_leans_37 k6 x1 x2 x3 1 M
def f_Mo_leans_36 (k6 : Int32 → Int32 → Int32 → mo_M → Option (Int32 × mo_M)) (x1 : Int32) (x2 : Int32) (x3 : Int32) (M : mo_M) : Option (Int32 × mo_M) :=
  f_Mo_leans_37 k6 x1 x2 x3 0 M
def f_Mo_leans_6 : Nat → Int32 → Int32 → Int32 → mo_M → Option (Int32 × mo_M)
  | 0, _, _, _, _ => none
  | n + 1, x1, x2, x3, M =>
    if x3 < 0 then
      hm_gd (decide (0 = 0 ∨ 0 = 1)) (some (0, M))
    else
      if ((x2 >>> (x3 &&& 31)) &&& 1) = 0 then
        f_Mo_leans_36 (fun x1 x2 x3 M => f_Mo_leans_6 n x1 x2 x3 M) x1 x2 x3 M
      else
        if x3 = x1 then
          f_Mo_leans_32 (fun x1 x2 x3 M => f_Mo_leans_6 n x1 x2 x3 M) x1 x2 x3 M
        else
          hm_gd (hm_ix x3 8) (if (M.1 4 x3.toNatClampNeg) = 0 then
            f_Mo_leans_32 (fun x1 x2 x3 M => f_Mo_leans_6 n x1 x2 x3 M) x1 x2 x3 M
          else
            f_Mo_leans_36 (fun x1 x2 x3 M => f_Mo_leans_6 n x1 x2 x3 M) x1 x2 x3 M)
def f_Mo_leans (M : mo_M) (x1 : Int32) : Option (Int32 × mo_M) :=
  f_Mo_leans_6 1000 x1 ((1 : Int32) <<< (x1 &&& 31)) x1 M
def f_Mo_compile_64 (k33 : Int32 → mo_M → Option (Int32 × mo_M)) (x1 : Int32) (M : mo_M) : Option (Int32 × mo_M) :=
  k33 (x1 + 1) M
def f_Mo_compile_33 : Nat → Int32 → mo_M → Option (Int32 × mo_M)
  | 0, _, _ => none
  | n + 1, x1, M =>
    if (M.1 0 11) ≤ x1 then
      hm_bI (f_Mo_total M ) (fun r2 M_3 => if (lg_cmp r2 (4000 : Int64)) ≤ 0 then
        mo_st M_3 0 13 1 (fun M_6 => some (r2.toInt32, M_6))
      else
        some ((-300), M_3))
    else
      hm_bI (f_Mo_kept M x1 1) (fun r7 M_8 => if r7 = 0 then
        f_Mo_compile_64 (fun x1 M => f_Mo_compile_33 n x1 M) x1 M_8
      else
        hm_bI (f_Mo_leans M_8 x1) (fun r11 M_12 => if r11 = 0 then
          f_Mo_compile_64 (fun x1 M => f_Mo_compile_33 n x1 M) x1 M_12
        else
          some (((-200) - x1), M_12)))
def f_Mo_compile (M : mo_M) : Option (Int32 × mo_M) :=
  if (M.1 0 13) = 0 then
    if 0 ≤ (M.1 0 11) then
      hm_bV (f_Mo_need M 0 ((M.1 0 12) - 1)) (fun M_4 => f_Mo_compile_33 1000 0 M_4)
    else
      some ((-100), M)
  else
    some ((-3), M)
def f_Mo_run_12 : Nat → Int32 → mo_M → Option (Int32 × mo_M)
  | 0, _, _ => none
  | n + 1, x1, M =>
    if (M.1 0 12) ≤ x1 then
      mo_st M 0 14 1 (fun M_2 => hm_bI (f_Mo_tiles M_2 ) (fun r3 M_4 => some (r3, M_4)))
    else
      hm_bI (f_Mo_valueAt M (M.1 0 11) x1) (fun r6 M_7 => hm_gd (hm_ix x1 32) (mo_st M_7 9 x1.toNatClampNeg r6 (fun M_10 => f_Mo_run_12 n (x1 + 1) M_10)))
def f_Mo_run (M : mo_M) : Option (Int32 × mo_M) :=
  if (M.1 0 13) = 0 then
    some ((-3), M)
  else
    f_Mo_run_12 1000 0 M
def f_Mo_cell_32 (y0 : Int64) (M : mo_M) : Option (Int64 × mo_M) :=
  some (y0, M)
def f_Mo_cell_19 (M : mo_M) : Option (Int64 × mo_M) :=
  f_Mo_cell_32 (-1000000000000 : Int64) M
def f_Mo_cell (M : mo_M) (x1 : Int32) : Option (Int64 × mo_M) :=
  if (M.1 0 14) = 0 then
    f_Mo_cell_19 M
  else
    if x1 < 0 then
      f_Mo_cell_19 M
    else
      if x1 < (M.1 0 12) then
        hm_gd (hm_ix x1 32) (f_Mo_cell_32 ((M.1 9 x1.toNatClampNeg).toInt64) M)
      else
        f_Mo_cell_19 M
def f_Mo_region_66 (y0 : Int32) (M : mo_M) : Option (Int32 × mo_M) :=
  some (y0, M)
def f_Mo_region (M : mo_M) (x1 : Int32) (x2 : Int32) : Option (Int32 × mo_M) :=
  if (M.1 0 13) = 0 then
    some ((-1000), M)
  else
    hm_bI (f_Mo_no M x1) (fun r2 M_3 => if r2 = 0 then
      hm_bV (f_Mo_need M_3 0 ((M_3.1 0 12) - 1)) (fun M_7 => hm_gd (hm_ix x1 8) (if (M_7.1 11 x1.toNatClampNeg) = 0 then
        some ((-2000), M_7)
      else
        if x2 = 0 then
          hm_gd (hm_ix x1 8) (f_Mo_region_66 (M_7.1 12 x1.toNatClampNeg) M_7)
        else
          hm_gd (hm_ix x1 8) (f_Mo_region_66 (M_7.1 13 x1.toNatClampNeg) M_7)))
    else
      some ((-2000), M_3))
def f_Mo_work (M : mo_M) (x1 : Int32) : Option (Int32 × mo_M) :=
  hm_bI (f_Mo_no M x1) (fun r1 M_2 => if r1 = 0 then
    if (M_2.1 0 13) = 0 then
      some ((-3), M_2)
    else
      hm_bI (f_Mo_total M_2 ) (fun r6 M_7 => hm_gd (hm_ix x1 8) (some ((M_7.2 14 x1.toNatClampNeg).toInt32, M_7)))
  else
    some ((-1), M_2))
def f_Mo_greatest_91 (k4 : Int32 → Int32 → Int32 → mo_M → Option (Int32 × mo_M)) (k23 : Int32 → Int32 → Int32 → Int32 → Int32 → mo_M → Option (Int32 × mo_M)) (x1 : Int32) (x2 : Int32) (x3 : Int32) (x5 : Int32) (y0 : Int32) (M : mo_M) : Option (Int32 × mo_M) :=
  k23 x1 x2 x3 y0 (x5 + 1) M
def f_Mo_greatest_63 (k4 : Int32 → Int32 → Int32 → mo_M → Option (Int32 × mo_M)) (k23 : Int32 → Int32 → Int32 → Int32 → Int32 → mo_M → Option (Int32 × mo_M)) (x1 : Int32) (x2 : Int32) (x3 : Int32) (x4 : Int32) (x5 : Int32) (y0 : Int32) (M : mo_M) : Option (Int32 × mo_M) :=
  if x1 = 0 then
    if y0 ≤ x4 then
      f_Mo_greatest_91 k4 k23 x1 x2 x3 x5 x4 M
    else
      f_Mo_greatest_91 k4 k23 x1 x2 x3 x5 y0 M
  else
    f_Mo_greatest_91 k4 k23 x1 x2 x3 x5 (x4 + y0) M
def f_Mo_greatest_108 (k4 : Int32 → Int32 → Int32 → mo_M → Option (Int32 × mo_M)) (x1 : Int32) (x2 : Int32) (x3 : Int32) (M : mo_M) : Option (Int32 × mo_M) :=
  k4 x1 x2 (x3 + 1) M
def f_Mo_greatest_23 (k4 : Int32 → Int32 → Int32 → mo_M → Option (Int32 × mo_M)) : Nat → Int32 → Int32 → Int32 → Int32 → Int32 → mo_M → Option (Int32 × mo_M)
  | 0, _, _, _, _, _, _ => none
  | n + 1, x1, x2, x3, x4, x5, M =>
    if (M.1 0 11) ≤ x5 then
      if x4 ≤ x2 then
        f_Mo_greatest_108 k4 x1 x2 x3 M
      else
        f_Mo_greatest_108 k4 x1 x4 x3 M
    else
      hm_bI (f_Mo_kept M x5 2) (fun r3 M_4 => if r3 = 0 then
        f_Mo_greatest_63 k4 (fun x1 x2 x3 x4 x5 M => f_Mo_greatest_23 k4 n x1 x2 x3 x4 x5 M) x1 x2 x3 x4 x5 0 M_4
      else
        hm_gd (hm_ix x5 8) (hm_gd (hm_ix x5 8) (f_Mo_greatest_63 k4 (fun x1 x2 x3 x4 x5 M => f_Mo_greatest_23 k4 n x1 x2 x3 x4 x5 M) x1 x2 x3 x4 x5 (((M_4.1 13 x5.toNatClampNeg) - (M_4.1 12 x5.toNatClampNeg)) + 1) M_4)))
def f_Mo_greatest_4 : Nat → Int32 → Int32 → Int32 → mo_M → Option (Int32 × mo_M)
  | 0, _, _, _, _ => none
  | n + 1, x1, x2, x3, M =>
    hm_bI (f_Mo_tiles M ) (fun r1 M_2 => if r1 ≤ x3 then
      some (x2, M_2)
    else
      hm_bV (f_Mo_needTile M_2 x3) (fun M_6 => f_Mo_greatest_23 (fun x1 x2 x3 M => f_Mo_greatest_4 n x1 x2 x3 M) 1000 x1 x2 x3 0 0 M_6))
def f_Mo_greatest (M : mo_M) (x1 : Int32) : Option (Int32 × mo_M) :=
  f_Mo_greatest_4 1000 x1 0 0 M
def f_Mo_count_20 (M : mo_M) : Option (Int32 × mo_M) :=
  some ((-1), M)
def f_Mo_count_39 (y0 : Int32) (M : mo_M) : Option (Int32 × mo_M) :=
  some (y0, M)
def f_Mo_count_158 (k97 : Int32 → Int32 → Int32 → mo_M → Option (Int32 × mo_M)) (x1 : Int32) (x2 : Int32) (x3 : Int32) (M : mo_M) : Option (Int32 × mo_M) :=
  k97 x1 x2 (x3 + 1) M
def f_Mo_count_156 (k97 : Int32 → Int32 → Int32 → mo_M → Option (Int32 × mo_M)) (x1 : Int32) (x3 : Int32) (y0 : Int32) (y1 : Int32) (M : mo_M) : Option (Int32 × mo_M) :=
  f_Mo_count_158 k97 x1 (y0 + y1) x3 M
def f_Mo_count_131 (k97 : Int32 → Int32 → Int32 → mo_M → Option (Int32 × mo_M)) (x1 : Int32) (x2 : Int32) (x3 : Int32) (M : mo_M) : Option (Int32 × mo_M) :=
  if x1 = 3 then
    f_Mo_count_156 k97 x1 x3 x2 1 M
  else
    hm_gd (hm_ix x3 8) (hm_gd (hm_ix x3 8) (f_Mo_count_156 k97 x1 x3 x2 (((M.1 13 x3.toNatClampNeg) - (M.1 12 x3.toNatClampNeg)) + 1) M))
def f_Mo_count_180 (y0 : Int32) (M : mo_M) : Option (Int32 × mo_M) :=
  some (y0, M)
def f_Mo_count_97 : Nat → Int32 → Int32 → Int32 → mo_M → Option (Int32 × mo_M)
  | 0, _, _, _, _ => none
  | n + 1, x1, x2, x3, M =>
    if (M.1 0 11) < x3 then
      if x1 = 3 then
        f_Mo_count_180 x2 M
      else
        hm_bI (f_Mo_greatest M 1) (fun r3 M_4 => f_Mo_count_180 (x2 + r3) M_4)
    else
      if x1 = 3 then
        hm_gd (hm_ix x3 8) (if (M.1 11 x3.toNatClampNeg) = 0 then
          f_Mo_count_158 (fun x1 x2 x3 M => f_Mo_count_97 n x1 x2 x3 M) x1 x2 x3 M
        else
          f_Mo_count_131 (fun x1 x2 x3 M => f_Mo_count_97 n x1 x2 x3 M) x1 x2 x3 M)
      else
        hm_bI (f_Mo_kept M x3 1) (fun r7 M_8 => if r7 = 0 then
          f_Mo_count_158 (fun x1 x2 x3 M => f_Mo_count_97 n x1 x2 x3 M) x1 x2 x3 M_8
        else
          f_Mo_count_131 (fun x1 x2 x3 M => f_Mo_count_97 n x1 x2 x3 M) x1 x2 x3 M_8)
def f_Mo_count (M : mo_M) (x1 : Int32) : Option (Int32 × mo_M) :=
  if x1 = 0 then
    some ((M.1 0 9), M)
  else
    if x1 < 1 then
      f_Mo_count_20 M
    else
      if x1 ≤ 6 then
        if x1 = 1 then
          if (M.1 0 13) = 0 then
            f_Mo_count_39 0 M
          else
            f_Mo_count_39 1 M
        else
          if (M.1 0 13) = 0 then
            some (0, M)
          else
            if x1 = 4 then
              hm_bI (f_Mo_tiles M ) (fun r18 M_19 => some (r18, M_19))
            else
              if x1 = 5 then
                hm_bI (f_Mo_greatest M 0) (fun r15 M_16 => some (r15, M_16))
              else
                if x1 = 6 then
                  hm_bI (f_Mo_total M ) (fun r12 M_13 => some (r12.toInt32, M_13))
                else
                  hm_bV (f_Mo_need M 0 ((M.1 0 12) - 1)) (fun M_10 => f_Mo_count_97 1000 x1 0 0 M_10)
      else
        f_Mo_count_20 M
