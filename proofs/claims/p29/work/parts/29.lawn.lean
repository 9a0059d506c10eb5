set_option maxHeartbeats 4000000 in
set_option maxRecDepth 100000 in
theorem sX11_answer (l : Launch) (dC : Nat → ClassId) (dI : Nat → Nat → Nat) (cy : Nat → ClassId) (h0 : Nat) (h_tape : Nat) (h_now : Nat) (h_trial : Nat) (h_kept : Nat) (h_images : Nat) (h_way : Nat) (h_otherWay : Nat) (h_flood : Nat) (h_cutSearch : Nat) (h_drySearch : Nat) (h_guess : Nat) (h_fraction : Nat) (h_told : Nat) (h_draft : Nat) (h_keptCount : Int32) (h_imageCount : Int32) (h_trouble : Int32) (p1 : Int32) (hh_keptCount : 0 ≤ h_keptCount.toInt ∧ h_keptCount.toInt ≤ 16) (hh_imageCount : 0 ≤ h_imageCount.toInt ∧ h_imageCount.toInt ≤ 3) : ctI l dC dI cy hp yX11_answer cX11_answer 2 .int ({ frames := 0, cells := 0, slots := 0, locals := 0 } : Room) [.ref h0, .int p1] [(h0, .inr (10, [.ref h_tape, .ref h_now, .ref h_trial, .ref h_kept, .ref h_images, .ref h_way, .ref h_otherWay, .ref h_flood, .ref h_cutSearch, .ref h_drySearch, .ref h_guess, .ref h_fraction, .ref h_told, .ref h_draft, .int h_keptCount, .int h_imageCount, .int h_trouble]))] (S := Int32) (fun r u => (r.toInt = p1.toInt) ∧ (u.toInt = 0)) (fun u => [(h0, .inr (10, [.ref h_tape, .ref h_now, .ref h_trial, .ref h_kept, .ref h_images, .ref h_way, .ref h_otherWay, .ref h_flood, .ref h_cutSearch, .ref h_drySearch, .ref h_guess, .ref h_fraction, .ref h_told, .ref h_draft, .int h_keptCount, .int h_imageCount, .int u]))]) := by
  refine ctI.of (by decide +kernel) (Nat.le_of_ble_eq_true rfl) ?_
  intro p e s m args below meth c A ls Q hQ X hr hlocks hin hA hP hD hS hl
  have hx := X.1
  have hb := X.2.1
  have hK := X.2.2.2.2.2.1
  have hl : lv_has ls 2 [(0, .ref h0), (1, .int p1)] := hl
  have dy_1 := ti_bd p1
  refine lv_aload_n hx hb dX11_answer_0 rfl (lv_at hl 0 rfl) ?_
  refine lv_iconst (v := 0) hx hb dX11_answer_1 (by decide) ?_
  refine r_put X kcX11 (ci := 10) rfl hP hD hS 0 rfl 16 (by decide) fX11_136 rfl rfl rfl (Nat.le_of_ble_eq_true rfl) dX11_answer_2 (fun H locs hP hD hS => ?_)
  have hPD := vPD (ws' := [(h0, .inr (10, [.ref h_tape, .ref h_now, .ref h_trial, .ref h_kept, .ref h_images, .ref h_way, .ref h_otherWay, .ref h_flood, .ref h_cutSearch, .ref h_drySearch, .ref h_guess, .ref h_fraction, .ref h_told, .ref h_draft, .int h_keptCount, .int h_imageCount, .int 0]))]) hP hD rfl
  have hP := hPD.1
  have hD := hPD.2
  refine lv_iload_n hx hb dX11_answer_5 rfl (lv_at hl 1 rfl) ?_
  exact eI hQ X hr hlocks hP hD hS ((0 : Int32)) [0] (by decide) rfl rfl (show (p1.toInt = p1.toInt) ∧ ((0 : Int32).toInt = 0) from ⟨(by omega), (by first | decide | (have h9_0 : (0 : Int32).toInt = 0 := (by decide); omega) | (refine ⟨by decide, ?_⟩; omega) | omega)⟩) (Nat.le_of_ble_eq_true rfl) (Nat.le_of_ble_eq_true rfl) dX11_answer_6
set_option maxHeartbeats 4000000 in
set_option maxRecDepth 100000 in
theorem sX11_refuse (l : Launch) (dC : Nat → ClassId) (dI : Nat → Nat → Nat) (cy : Nat → ClassId) (h0 : Nat) (h_tape : Nat) (h_now : Nat) (h_trial : Nat) (h_kept : Nat) (h_images : Nat) (h_way : Nat) (h_otherWay : Nat) (h_flood : Nat) (h_cutSearch : Nat) (h_drySearch : Nat) (h_guess : Nat) (h_fraction : Nat) (h_told : Nat) (h_draft : Nat) (h_keptCount : Int32) (h_imageCount : Int32) (h_trouble : Int32) (p1 : Int32) (hh_keptCount : 0 ≤ h_keptCount.toInt ∧ h_keptCount.toInt ≤ 16) (hh_imageCount : 0 ≤ h_imageCount.toInt ∧ h_imageCount.toInt ≤ 3) : ctI l dC dI cy hp yX11_refuse cX11_refuse 2 .int ({ frames := 0, cells := 0, slots := 0, locals := 0 } : Room) [.ref h0, .int p1] [(h0, .inr (10, [.ref h_tape, .ref h_now, .ref h_trial, .ref h_kept, .ref h_images, .ref h_way, .ref h_otherWay, .ref h_flood, .ref h_cutSearch, .ref h_drySearch, .ref h_guess, .ref h_fraction, .ref h_told, .ref h_draft, .int h_keptCount, .int h_imageCount, .int h_trouble]))] (S := Int32) (fun r u => (r = -1) ∧ (u.toInt = p1.toInt)) (fun u => [(h0, .inr (10, [.ref h_tape, .ref h_now, .ref h_trial, .ref h_kept, .ref h_images, .ref h_way, .ref h_otherWay, .ref h_flood, .ref h_cutSearch, .ref h_drySearch, .ref h_guess, .ref h_fraction, .ref h_told, .ref h_draft, .int h_keptCount, .int h_imageCount, .int u]))]) := by
  refine ctI.of (by decide +kernel) (Nat.le_of_ble_eq_true rfl) ?_
  intro p e s m args below meth c A ls Q hQ X hr hlocks hin hA hP hD hS hl
  have hx := X.1
  have hb := X.2.1
  have hK := X.2.2.2.2.2.1
  have hl : lv_has ls 2 [(0, .ref h0), (1, .int p1)] := hl
  have dy_1 := ti_bd p1
  refine lv_aload_n hx hb dX11_refuse_0 rfl (lv_at hl 0 rfl) ?_
  refine lv_iload_n hx hb dX11_refuse_1 rfl (lv_at hl 1 rfl) ?_
  refine r_put X kcX11 (ci := 10) rfl hP hD hS 0 rfl 16 (by decide) fX11_136 rfl rfl rfl (Nat.le_of_ble_eq_true rfl) dX11_refuse_2 (fun H locs hP hD hS => ?_)
  have hPD := vPD (ws' := [(h0, .inr (10, [.ref h_tape, .ref h_now, .ref h_trial, .ref h_kept, .ref h_images, .ref h_way, .ref h_otherWay, .ref h_flood, .ref h_cutSearch, .ref h_drySearch, .ref h_guess, .ref h_fraction, .ref h_told, .ref h_draft, .int h_keptCount, .int h_imageCount, .int p1]))]) hP hD rfl
  have hP := hPD.1
  have hD := hPD.2
  refine lv_iconst (v := -1) hx hb dX11_refuse_5 (by decide) ?_
  exact eI hQ X hr hlocks hP hD hS p1 [0] (by decide) rfl rfl (show ((-1 : Int32) = -1) ∧ (p1.toInt = p1.toInt) from ⟨rfl, (by omega)⟩) (Nat.le_of_ble_eq_true rfl) (Nat.le_of_ble_eq_true rfl) dX11_refuse_6
set_option maxHeartbeats 4000000 in
set_option maxRecDepth 100000 in
theorem sX11_report (l : Launch) (dC : Nat → ClassId) (dI : Nat → Nat → Nat) (cy : Nat → ClassId) (h0 : Nat) (h_tape : Nat) (h_now : Nat) (h_trial : Nat) (h_kept : Nat) (h_images : Nat) (h_way : Nat) (h_otherWay : Nat) (h_flood : Nat) (h_cutSearch : Nat) (h_drySearch : Nat) (h_guess : Nat) (h_fraction : Nat) (h_told : Nat) (h_draft : Nat) (h_keptCount : Int32) (h_imageCount : Int32) (h_trouble : Int32) (p1 : Int32) (hh_keptCount : 0 ≤ h_keptCount.toInt ∧ h_keptCount.toInt ≤ 16) (hh_imageCount : 0 ≤ h_imageCount.toInt ∧ h_imageCount.toInt ≤ 3) : ctI l dC dI cy hp yX11_report cX11_report 2 .boolean ({ frames := 0, cells := 0, slots := 0, locals := 0 } : Room) [.ref h0, .int p1] [(h0, .inr (10, [.ref h_tape, .ref h_now, .ref h_trial, .ref h_kept, .ref h_images, .ref h_way, .ref h_otherWay, .ref h_flood, .ref h_cutSearch, .ref h_drySearch, .ref h_guess, .ref h_fraction, .ref h_told, .ref h_draft, .int h_keptCount, .int h_imageCount, .int h_trouble]))] (S := Int32) (fun r u => (0 ≤ r.toInt ∧ r.toInt ≤ 1) ∧ ((p1.toInt = 0 ∧ r.toInt = 1) ∨ (p1.toInt ≠ 0 ∧ r.toInt = 0)) ∧ (u.toInt = p1.toInt)) (fun u => [(h0, .inr (10, [.ref h_tape, .ref h_now, .ref h_trial, .ref h_kept, .ref h_images, .ref h_way, .ref h_otherWay, .ref h_flood, .ref h_cutSearch, .ref h_drySearch, .ref h_guess, .ref h_fraction, .ref h_told, .ref h_draft, .int h_keptCount, .int h_imageCount, .int u]))]) := by
  refine ctI.of (by decide +kernel) (Nat.le_of_ble_eq_true rfl) ?_
  intro p e s m args below meth c A ls Q hQ X hr hlocks hin hA hP hD hS hl
  have hx := X.1
  have hb := X.2.1
  have hK := X.2.2.2.2.2.1
  have hl : lv_has ls 2 [(0, .ref h0), (1, .int p1)] := hl
  have dy_1 := ti_bd p1
  refine lv_aload_n hx hb dX11_report_0 rfl (lv_at hl 0 rfl) ?_
  refine lv_iload_n hx hb dX11_report_1 rfl (lv_at hl 1 rfl) ?_
  refine r_put X kcX11 (ci := 10) rfl hP hD hS 0 rfl 16 (by decide) fX11_136 rfl rfl rfl (Nat.le_of_ble_eq_true rfl) dX11_report_2 (fun H locs hP hD hS => ?_)
  have hPD := vPD (ws' := [(h0, .inr (10, [.ref h_tape, .ref h_now, .ref h_trial, .ref h_kept, .ref h_images, .ref h_way, .ref h_otherWay, .ref h_flood, .ref h_cutSearch, .ref h_drySearch, .ref h_guess, .ref h_fraction, .ref h_told, .ref h_draft, .int h_keptCount, .int h_imageCount, .int p1]))]) hP hD rfl
  have hP := hPD.1
  have hD := hPD.2
  refine lv_iload_n hx hb dX11_report_5 rfl (lv_at hl 1 rfl) ?_
  refine lv_if_ne (tgt := 13) hx hb dX11_report_6 (by decide) (fun h_2 => ?_) (fun h_2 => ?_)
  · have h_2 : p1.toInt ≠ 0 := c_ne h_2
    refine lv_iconst (v := 0) hx hb dX11_report_13 (by decide) ?_
    exact eI hQ X hr hlocks hP hD hS p1 [0] (by decide) rfl rfl (show (0 ≤ (0 : Int32).toInt ∧ (0 : Int32).toInt ≤ 1) ∧ ((p1.toInt = 0 ∧ (0 : Int32).toInt = 1) ∨ (p1.toInt ≠ 0 ∧ (0 : Int32).toInt = 0)) ∧ (p1.toInt = p1.toInt) from ⟨(by first | decide | (have h9_0 : (0 : Int32).toInt = 0 := (by decide); omega) | (refine ⟨by decide, ?_⟩; omega) | omega), (Or.inr ⟨by omega, by decide⟩), (by omega)⟩) (Nat.le_of_ble_eq_true rfl) (Nat.le_of_ble_eq_true rfl) dX11_report_14
  · have h_2 : p1.toInt = 0 := c_eq h_2
    refine lv_iconst (v := 1) hx hb dX11_report_9 (by decide) ?_
    refine lv_goto (tgt := 14) hx hb dX11_report_10 (by decide) ?_
    exact eI hQ X hr hlocks hP hD hS p1 [0] (by decide) rfl rfl (show (0 ≤ (1 : Int32).toInt ∧ (1 : Int32).toInt ≤ 1) ∧ ((p1.toInt = 0 ∧ (1 : Int32).toInt = 1) ∨ (p1.toInt ≠ 0 ∧ (1 : Int32).toInt = 0)) ∧ (p1.toInt = p1.toInt) from ⟨(by first | decide | (have h9_0 : (1 : Int32).toInt = 1 := (by decide); omega) | (refine ⟨by decide, ?_⟩; omega) | omega), (Or.inl ⟨by omega, by decide⟩), (by omega)⟩) (Nat.le_of_ble_eq_true rfl) (Nat.le_of_ble_eq_true rfl) dX11_report_14
set_option maxHeartbeats 4000000 in
set_option maxRecDepth 100000 in
theorem sX11_share (l : Launch) (dC : Nat → ClassId) (dI : Nat → Nat → Nat) (cy : Nat → ClassId) (h0 : Nat) (h_tape : Nat) (h_now : Nat) (h_trial : Nat) (h_kept : Nat) (h_images : Nat) (h_way : Nat) (h_otherWay : Nat) (h_flood : Nat) (h_cutSearch : Nat) (h_drySearch : Nat) (h_guess : Nat) (h_fraction : Nat) (h_told : Nat) (h_draft : Nat) (h_keptCount : Int32) (h_imageCount : Int32) (h_trouble : Int32) (h_fraction_upper : Int64) (h_fraction_lower : Int64) (p1 : Int32) (hh_keptCount : 0 ≤ h_keptCount.toInt ∧ h_keptCount.toInt ≤ 16) (hh_imageCount : 0 ≤ h_imageCount.toInt ∧ h_imageCount.toInt ≤ 3) : ctL l dC dI cy hp yX11_share cX11_share 2 ({ frames := 0, cells := 0, slots := 0, locals := 0 } : Room) [.ref h0, .int p1] [(h0, .inr (10, [.ref h_tape, .ref h_now, .ref h_trial, .ref h_kept, .ref h_images, .ref h_way, .ref h_otherWay, .ref h_flood, .ref h_cutSearch, .ref h_drySearch, .ref h_guess, .ref h_fraction, .ref h_told, .ref h_draft, .int h_keptCount, .int h_imageCount, .int h_trouble])), (h_fraction, .inr (3, [.long h_fraction_upper, .long h_fraction_lower]))] (S := Int32) (fun r u => ((p1.toInt ≠ 0 ∧ r.toInt = h_fraction_lower.toInt) ∨ (p1.toInt = 0 ∧ r.toInt = h_fraction_upper.toInt)) ∧ (u.toInt = 0)) (fun u => [(h0, .inr (10, [.ref h_tape, .ref h_now, .ref h_trial, .ref h_kept, .ref h_images, .ref h_way, .ref h_otherWay, .ref h_flood, .ref h_cutSearch, .ref h_drySearch, .ref h_guess, .ref h_fraction, .ref h_told, .ref h_draft, .int h_keptCount, .int h_imageCount, .int u])), (h_fraction, .inr (3, [.long h_fraction_upper, .long h_fraction_lower]))]) := by
  refine ctL.of (by decide +kernel) (Nat.le_of_ble_eq_true rfl) ?_
  intro p e s m args below meth c A ls Q hQ X hr hlocks hin hA hP hD hS hl
  have hx := X.1
  have hb := X.2.1
  have hK := X.2.2.2.2.2.1
  have hl : lv_has ls 2 [(0, .ref h0), (1, .int p1)] := hl
  have dy_1 := ti_bd p1
  refine lv_aload_n hx hb dX11_share_0 rfl (lv_at hl 0 rfl) ?_
  refine lv_iconst (v := 0) hx hb dX11_share_1 (by decide) ?_
  refine r_put X kcX11 (ci := 10) rfl hP hD hS 0 rfl 16 (by decide) fX11_136 rfl rfl rfl (Nat.le_of_ble_eq_true rfl) dX11_share_2 (fun H locs hP hD hS => ?_)
  have hPD := vPD (ws' := [(h0, .inr (10, [.ref h_tape, .ref h_now, .ref h_trial, .ref h_kept, .ref h_images, .ref h_way, .ref h_otherWay, .ref h_flood, .ref h_cutSearch, .ref h_drySearch, .ref h_guess, .ref h_fraction, .ref h_told, .ref h_draft, .int h_keptCount, .int h_imageCount, .int 0])), (h_fraction, .inr (3, [.long h_fraction_upper, .long h_fraction_lower]))]) hP hD rfl
  have hP := hPD.1
  have hD := hPD.2
  refine lv_iload_n hx hb dX11_share_5 rfl (lv_at hl 1 rfl) ?_
  refine lv_if_eq (tgt := 19) hx hb dX11_share_6 (by decide) (fun h_2 => ?_) (fun h_2 => ?_)
  · have h_2 : p1.toInt = 0 := c_eq h_2
    refine lv_aload_n hx hb dX11_share_19 rfl (lv_at hl 0 rfl) ?_
    refine r_get X kcX11 (ci := 10) rfl hP 0 rfl 11 (by decide) fX11_74 rfl dX11_share_20 ?_
    refine r_get X kcX3 (ci := 3) rfl hP 1 rfl 0 (by decide) fX11_370 rfl dX11_share_23 ?_
    exact eL hQ X hr hlocks hP hD hS ((0 : Int32)) [0, 1] (by decide) rfl (show ((p1.toInt ≠ 0 ∧ h_fraction_upper.toInt = h_fraction_lower.toInt) ∨ (p1.toInt = 0 ∧ h_fraction_upper.toInt = h_fraction_upper.toInt)) ∧ ((0 : Int32).toInt = 0) from ⟨(by first | exact Or.inl ⟨by omega, rfl⟩ | exact Or.inr ⟨by omega, rfl⟩), (by first | decide | (have h9_0 : (0 : Int32).toInt = 0 := (by decide); omega) | (refine ⟨by decide, ?_⟩; omega) | omega)⟩) (Nat.le_of_ble_eq_true rfl) (Nat.le_of_ble_eq_true rfl) dX11_share_26
  · have h_2 : p1.toInt ≠ 0 := c_ne h_2
    refine lv_aload_n hx hb dX11_share_9 rfl (lv_at hl 0 rfl) ?_
    refine r_get X kcX11 (ci := 10) rfl hP 0 rfl 11 (by decide) fX11_74 rfl dX11_share_10 ?_
    refine r_get X kcX3 (ci := 3) rfl hP 1 rfl 1 (by decide) fX11_366 rfl dX11_share_13 ?_
    refine lv_goto (tgt := 26) hx hb dX11_share_16 (by decide) ?_
    exact eL hQ X hr hlocks hP hD hS ((0 : Int32)) [0, 1] (by decide) rfl (show ((p1.toInt ≠ 0 ∧ h_fraction_lower.toInt = h_fraction_lower.toInt) ∨ (p1.toInt = 0 ∧ h_fraction_lower.toInt = h_fraction_upper.toInt)) ∧ ((0 : Int32).toInt = 0) from ⟨(by first | exact Or.inl ⟨by omega, rfl⟩ | exact Or.inr ⟨by omega, rfl⟩), (by first | decide | (have h9_0 : (0 : Int32).toInt = 0 := (by decide); omega) | (refine ⟨by decide, ?_⟩; omega) | omega)⟩) (Nat.le_of_ble_eq_true rfl) (Nat.le_of_ble_eq_true rfl) dX11_share_26
set_option maxHeartbeats 4000000 in
set_option maxRecDepth 100000 in
theorem sX11_hasPark (l : Launch) (dC : Nat → ClassId) (dI : Nat → Nat → Nat) (cy : Nat → ClassId) (h0 : Nat) (h_tape : Nat) (h_now : Nat) (h_trial : Nat) (h_kept : Nat) (h_images : Nat) (h_way : Nat) (h_otherWay : Nat) (h_flood : Nat) (h_cutSearch : Nat) (h_drySearch : Nat) (h_guess : Nat) (h_fraction : Nat) (h_told : Nat) (h_draft : Nat) (h_keptCount : Int32) (h_imageCount : Int32) (h_trouble : Int32) (h_now_ground : Nat) (h_now_at : Nat) (h_now_fell : Nat) (h_now_went : Nat) (h_now_walkers : Int32) (h_now_ground_wide : Int32) (h_now_ground_deep : Int32) (h_now_ground_count : Int32) (h_now_ground_sorts : Nat) (hh_keptCount : 0 ≤ h_keptCount.toInt ∧ h_keptCount.toInt ≤ 16) (hh_imageCount : 0 ≤ h_imageCount.toInt ∧ h_imageCount.toInt ≤ 3) (hh_now_walkers : 0 ≤ h_now_walkers.toInt ∧ h_now_walkers.toInt ≤ 4) (hh_now_ground_wide : 0 ≤ h_now_ground_wide.toInt ∧ h_now_ground_wide.toInt ≤ 5) (hh_now_ground_deep : 0 ≤ h_now_ground_deep.toInt ∧ h_now_ground_deep.toInt ≤ 4) (hh_now_ground_count : 0 ≤ h_now_ground_count.toInt ∧ h_now_ground_count.toInt ≤ 20) : ctI l dC dI cy hp yX11_hasPark cX11_hasPark 1 .boolean ({ frames := 0, cells := 0, slots := 0, locals := 0 } : Room) [.ref h0] [(h0, .inr (10, [.ref h_tape, .ref h_now, .ref h_trial, .ref h_kept, .ref h_images, .ref h_way, .ref h_otherWay, .ref h_flood, .ref h_cutSearch, .ref h_drySearch, .ref h_guess, .ref h_fraction, .ref h_told, .ref h_draft, .int h_keptCount, .int h_imageCount, .int h_trouble])), (h_now, .inr (6, [.ref h_now_ground, .ref h_now_at, .ref h_now_fell, .ref h_now_went, .int h_now_walkers])), (h_now_ground, .inr (4, [.int h_now_ground_wide, .int h_now_ground_deep, .int h_now_ground_count, .ref h_now_ground_sorts]))] (S := Unit) (fun r _ => (0 ≤ r.toInt ∧ r.toInt ≤ 1) ∧ ((r.toInt = 1 ∧ 0 < h_now_ground_count.toInt) ∨ (r.toInt = 0 ∧ h_now_ground_count.toInt ≤ 0))) (fun _ => [(h0, .inr (10, [.ref h_tape, .ref h_now, .ref h_trial, .ref h_kept, .ref h_images, .ref h_way, .ref h_otherWay, .ref h_flood, .ref h_cutSearch, .ref h_drySearch, .ref h_guess, .ref h_fraction, .ref h_told, .ref h_draft, .int h_keptCount, .int h_imageCount, .int h_trouble])), (h_now, .inr (6, [.ref h_now_ground, .ref h_now_at, .ref h_now_fell, .ref h_now_went, .int h_now_walkers])), (h_now_ground, .inr (4, [.int h_now_ground_wide, .int h_now_ground_deep, .int h_now_ground_count, .ref h_now_ground_sorts]))]) := by
  refine ctI.of (by decide +kernel) (Nat.le_of_ble_eq_true rfl) ?_
  intro p e s m args below meth c A ls Q hQ X hr hlocks hin hA hP hD hS hl
  have hx := X.1
  have hb := X.2.1
  have hK := X.2.2.2.2.2.1
  have hl : lv_has ls 1 [(0, .ref h0)] := hl
  refine lv_aload_n hx hb dX11_hasPark_0 rfl (lv_at hl 0 rfl) ?_
  refine r_get X kcX11 (ci := 10) rfl hP 0 rfl 1 (by decide) fX11_19 rfl dX11_hasPark_1 ?_
  refine r_get X kcX6 (ci := 6) rfl hP 1 rfl 0 (by decide) fX11_121 rfl dX11_hasPark_4 ?_
  refine r_get X kcX4 (ci := 4) rfl hP 2 rfl 2 (by decide) fX11_125 rfl dX11_hasPark_7 ?_
  refine lv_if_le (tgt := 17) hx hb dX11_hasPark_10 (by decide) (fun h_1 => ?_) (fun h_1 => ?_)
  · have h_1 : h_now_ground_count.toInt ≤ 0 := c_le h_1
    refine lv_iconst (v := 0) hx hb dX11_hasPark_17 (by decide) ?_
    exact eI hQ X hr hlocks hP hD hS () [0, 1, 2] (by decide) rfl rfl (show (0 ≤ (0 : Int32).toInt ∧ (0 : Int32).toInt ≤ 1) ∧ (((0 : Int32).toInt = 1 ∧ 0 < h_now_ground_count.toInt) ∨ ((0 : Int32).toInt = 0 ∧ h_now_ground_count.toInt ≤ 0)) from ⟨(by first | decide | (have h9_0 : (0 : Int32).toInt = 0 := (by decide); omega) | (refine ⟨by decide, ?_⟩; omega) | omega), (Or.inr ⟨by decide, by omega⟩)⟩) (Nat.le_of_ble_eq_true rfl) (Nat.le_of_ble_eq_true rfl) dX11_hasPark_18
  · have h_1 : 0 < h_now_ground_count.toInt := c_nle h_1
    refine lv_iconst (v := 1) hx hb dX11_hasPark_13 (by decide) ?_
    refine lv_goto (tgt := 18) hx hb dX11_hasPark_14 (by decide) ?_
    exact eI hQ X hr hlocks hP hD hS () [0, 1, 2] (by decide) rfl rfl (show (0 ≤ (1 : Int32).toInt ∧ (1 : Int32).toInt ≤ 1) ∧ (((1 : Int32).toInt = 1 ∧ 0 < h_now_ground_count.toInt) ∨ ((1 : Int32).toInt = 0 ∧ h_now_ground_count.toInt ≤ 0)) from ⟨(by first | decide | (have h9_0 : (1 : Int32).toInt = 1 := (by decide); omega) | (refine ⟨by decide, ?_⟩; omega) | omega), (Or.inl ⟨by decide, by omega⟩)⟩) (Nat.le_of_ble_eq_true rfl) (Nat.le_of_ble_eq_true rfl) dX11_hasPark_18
set_option maxHeartbeats 4000000 in
set_option maxRecDepth 100000 in
theorem sX11_isWalker (l : Launch) (dC : Nat → ClassId) (dI : Nat → Nat → Nat) (cy : Nat → ClassId) (h0 : Nat) (h_tape : Nat) (h_now : Nat) (h_trial : Nat) (h_kept : Nat) (h_images : Nat) (h_way : Nat) (h_otherWay : Nat) (h_flood : Nat) (h_cutSearch : Nat) (h_drySearch : Nat) (h_guess : Nat) (h_fraction : Nat) (h_told : Nat) (h_draft : Nat) (h_keptCount : Int32) (h_imageCount : Int32) (h_trouble : Int32) (h_told_ground : Nat) (h_told_errs : Int32) (h_told_slips : Int32) (h_told_rows : Int32) (h_told_unsureCount : Int32) (h_told_unsure : Nat) (h_told_walkers : Int32) (h_told_names : Nat) (h_told_kinds : Nat) (h_told_starts : Nat) (h_told_goals : Nat) (h_told_walks : Int32) (h_told_walkStarts : Nat) (h_told_walkSteps : Nat) (h_told_walkFell : Nat) (p1 : Int32) (hh_keptCount : 0 ≤ h_keptCount.toInt ∧ h_keptCount.toInt ≤ 16) (hh_imageCount : 0 ≤ h_imageCount.toInt ∧ h_imageCount.toInt ≤ 3) (hh_told_rows : 0 ≤ h_told_rows.toInt ∧ h_told_rows.toInt ≤ 4) (hh_told_unsureCount : 0 ≤ h_told_unsureCount.toInt ∧ h_told_unsureCount.toInt ≤ 5) (hh_told_walkers : 0 ≤ h_told_walkers.toInt ∧ h_told_walkers.toInt ≤ 4) (hh_told_walks : 0 ≤ h_told_walks.toInt ∧ h_told_walks.toInt ≤ 6) : ctI l dC dI cy hp yX11_isWalker cX11_isWalker 2 .boolean ({ frames := 0, cells := 0, slots := 0, locals := 0 } : Room) [.ref h0, .int p1] [(h0, .inr (10, [.ref h_tape, .ref h_now, .ref h_trial, .ref h_kept, .ref h_images, .ref h_way, .ref h_otherWay, .ref h_flood, .ref h_cutSearch, .ref h_drySearch, .ref h_guess, .ref h_fraction, .ref h_told, .ref h_draft, .int h_keptCount, .int h_imageCount, .int h_trouble])), (h_told, .inr (7, [.ref h_told_ground, .int h_told_errs, .int h_told_slips, .int h_told_rows, .int h_told_unsureCount, .ref h_told_unsure, .int h_told_walkers, .ref h_told_names, .ref h_told_kinds, .ref h_told_starts, .ref h_told_goals, .int h_told_walks, .ref h_told_walkStarts, .ref h_told_walkSteps, .ref h_told_walkFell]))] (S := Unit) (fun r _ => (0 ≤ r.toInt ∧ r.toInt ≤ 1) ∧ ((r.toInt = 1 ∧ 0 ≤ p1.toInt ∧ p1.toInt < h_told_walkers.toInt) ∨ (r.toInt = 0 ∧ (p1.toInt < 0 ∨ h_told_walkers.toInt ≤ p1.toInt)))) (fun _ => [(h0, .inr (10, [.ref h_tape, .ref h_now, .ref h_trial, .ref h_kept, .ref h_images, .ref h_way, .ref h_otherWay, .ref h_flood, .ref h_cutSearch, .ref h_drySearch, .ref h_guess, .ref h_fraction, .ref h_told, .ref h_draft, .int h_keptCount, .int h_imageCount, .int h_trouble])), (h_told, .inr (7, [.ref h_told_ground, .int h_told_errs, .int h_told_slips, .int h_told_rows, .int h_told_unsureCount, .ref h_told_unsure, .int h_told_walkers, .ref h_told_names, .ref h_told_kinds, .ref h_told_starts, .ref h_told_goals, .int h_told_walks, .ref h_told_walkStarts, .ref h_told_walkSteps, .ref h_told_walkFell]))]) := by
  refine ctI.of (by decide +kernel) (Nat.le_of_ble_eq_true rfl) ?_
  intro p e s m args below meth c A ls Q hQ X hr hlocks hin hA hP hD hS hl
  have hx := X.1
  have hb := X.2.1
  have hK := X.2.2.2.2.2.1
  have hl : lv_has ls 2 [(0, .ref h0), (1, .int p1)] := hl
  have dy_1 := ti_bd p1
  refine lv_iload_n hx hb dX11_isWalker_0 rfl (lv_at hl 1 rfl) ?_
  refine lv_if_lt (tgt := 19) hx hb dX11_isWalker_1 (by decide) (fun h_2 => ?_) (fun h_2 => ?_)
  · have h_2 : p1.toInt < 0 := c_lt h_2
    refine lv_iconst (v := 0) hx hb dX11_isWalker_19 (by decide) ?_
    exact eI hQ X hr hlocks hP hD hS () [0, 1] (by decide) rfl rfl (show (0 ≤ (0 : Int32).toInt ∧ (0 : Int32).toInt ≤ 1) ∧ (((0 : Int32).toInt = 1 ∧ 0 ≤ p1.toInt ∧ p1.toInt < h_told_walkers.toInt) ∨ ((0 : Int32).toInt = 0 ∧ (p1.toInt < 0 ∨ h_told_walkers.toInt ≤ p1.toInt))) from ⟨(by decide), (Or.inr ⟨by decide, by omega⟩)⟩) (Nat.le_of_ble_eq_true rfl) (Nat.le_of_ble_eq_true rfl) dX11_isWalker_20
  · have h_2 : 0 ≤ p1.toInt := c_nlt h_2
    refine lv_iload_n hx hb dX11_isWalker_4 rfl (lv_at hl 1 rfl) ?_
    refine lv_aload_n hx hb dX11_isWalker_5 rfl (lv_at hl 0 rfl) ?_
    refine r_get X kcX11 (ci := 10) rfl hP 0 rfl 12 (by decide) fX11_81 rfl dX11_isWalker_6 ?_
    refine r_get X kcX7 (ci := 7) rfl hP 1 rfl 6 (by decide) fX11_223 rfl dX11_isWalker_9 ?_
    refine lv_icmp_ge (tgt := 19) hx hb dX11_isWalker_12 (by decide) (fun h_3 => ?_) (fun h_3 => ?_)
    · have h_3 : h_told_walkers.toInt ≤ p1.toInt := c_le h_3
      refine lv_iconst (v := 0) hx hb dX11_isWalker_19 (by decide) ?_
      exact eI hQ X hr hlocks hP hD hS () [0, 1] (by decide) rfl rfl (show (0 ≤ (0 : Int32).toInt ∧ (0 : Int32).toInt ≤ 1) ∧ (((0 : Int32).toInt = 1 ∧ 0 ≤ p1.toInt ∧ p1.toInt < h_told_walkers.toInt) ∨ ((0 : Int32).toInt = 0 ∧ (p1.toInt < 0 ∨ h_told_walkers.toInt ≤ p1.toInt))) from ⟨(by decide), (Or.inr ⟨by decide, by omega⟩)⟩) (Nat.le_of_ble_eq_true rfl) (Nat.le_of_ble_eq_true rfl) dX11_isWalker_20
    · have h_3 : p1.toInt < h_told_walkers.toInt := c_nle h_3
      refine lv_iconst (v := 1) hx hb dX11_isWalker_15 (by decide) ?_
      refine lv_goto (tgt := 20) hx hb dX11_isWalker_16 (by decide) ?_
      exact eI hQ X hr hlocks hP hD hS () [0, 1] (by decide) rfl rfl (show (0 ≤ (1 : Int32).toInt ∧ (1 : Int32).toInt ≤ 1) ∧ (((1 : Int32).toInt = 1 ∧ 0 ≤ p1.toInt ∧ p1.toInt < h_told_walkers.toInt) ∨ ((1 : Int32).toInt = 0 ∧ (p1.toInt < 0 ∨ h_told_walkers.toInt ≤ p1.toInt))) from ⟨(by decide), (Or.inl ⟨by decide, by omega, by omega⟩)⟩) (Nat.le_of_ble_eq_true rfl) (Nat.le_of_ble_eq_true rfl) dX11_isWalker_20
set_option maxHeartbeats 4000000 in
set_option maxRecDepth 100000 in
theorem sX11_isStep (l : Launch) (dC : Nat → ClassId) (dI : Nat → Nat → Nat) (cy : Nat → ClassId) (p1 : Int32) : ctI l dC dI cy hp yX11_isStep cX11_isStep 1 .boolean ({ frames := 0, cells := 0, slots := 0, locals := 0 } : Room) [.int p1] [] (S := Unit) (fun r _ => (0 ≤ r.toInt ∧ r.toInt ≤ 1) ∧ ((r.toInt = 1 ∧ 0 ≤ p1.toInt ∧ p1.toInt < 4) ∨ (r.toInt = 0 ∧ (p1.toInt < 0 ∨ 4 ≤ p1.toInt)))) (fun _ => []) := by
  refine ctI.of (by decide +kernel) (Nat.le_of_ble_eq_true rfl) ?_
  intro p e s m args below meth c A ls Q hQ X hr hlocks hin hA hP hD hS hl
  have hx := X.1
  have hb := X.2.1
  have hK := X.2.2.2.2.2.1
  have hl : lv_has ls 1 [(0, .int p1)] := hl
  have dy_1 := ti_bd p1
  refine lv_iload_n hx hb dX11_isStep_0 rfl (lv_at hl 0 rfl) ?_
  refine lv_if_lt (tgt := 13) hx hb dX11_isStep_1 (by decide) (fun h_2 => ?_) (fun h_2 => ?_)
  · have h_2 : p1.toInt < 0 := c_lt h_2
    refine lv_iconst (v := 0) hx hb dX11_isStep_13 (by decide) ?_
    exact eI hQ X hr hlocks hP hD hS () [] (by decide) rfl rfl (show (0 ≤ (0 : Int32).toInt ∧ (0 : Int32).toInt ≤ 1) ∧ (((0 : Int32).toInt = 1 ∧ 0 ≤ p1.toInt ∧ p1.toInt < 4) ∨ ((0 : Int32).toInt = 0 ∧ (p1.toInt < 0 ∨ 4 ≤ p1.toInt))) from ⟨(by decide), (Or.inr ⟨by decide, by omega⟩)⟩) (Nat.le_of_ble_eq_true rfl) (Nat.le_of_ble_eq_true rfl) dX11_isStep_14
  · have h_2 : 0 ≤ p1.toInt := c_nlt h_2
    refine lv_iload_n hx hb dX11_isStep_4 rfl (lv_at hl 0 rfl) ?_
    refine lv_iconst (v := 4) hx hb dX11_isStep_5 (by decide) ?_
    refine lv_icmp_ge (tgt := 13) hx hb dX11_isStep_6 (by decide) (fun h_3 => ?_) (fun h_3 => ?_)
    · have h_3 : 4 ≤ p1.toInt := c_le h_3
      refine lv_iconst (v := 0) hx hb dX11_isStep_13 (by decide) ?_
      exact eI hQ X hr hlocks hP hD hS () [] (by decide) rfl rfl (show (0 ≤ (0 : Int32).toInt ∧ (0 : Int32).toInt ≤ 1) ∧ (((0 : Int32).toInt = 1 ∧ 0 ≤ p1.toInt ∧ p1.toInt < 4) ∨ ((0 : Int32).toInt = 0 ∧ (p1.toInt < 0 ∨ 4 ≤ p1.toInt))) from ⟨(by decide), (Or.inr ⟨by decide, by omega⟩)⟩) (Nat.le_of_ble_eq_true rfl) (Nat.le_of_ble_eq_true rfl) dX11_isStep_14
    · have h_3 : p1.toInt < 4 := c_nle h_3
      refine lv_iconst (v := 1) hx hb dX11_isStep_9 (by decide) ?_
      refine lv_goto (tgt := 14) hx hb dX11_isStep_10 (by decide) ?_
      exact eI hQ X hr hlocks hP hD hS () [] (by decide) rfl rfl (show (0 ≤ (1 : Int32).toInt ∧ (1 : Int32).toInt ≤ 1) ∧ (((1 : Int32).toInt = 1 ∧ 0 ≤ p1.toInt ∧ p1.toInt < 4) ∨ ((1 : Int32).toInt = 0 ∧ (p1.toInt < 0 ∨ 4 ≤ p1.toInt))) from ⟨(by decide), (Or.inl ⟨by decide, by omega, by omega⟩)⟩) (Nat.le_of_ble_eq_true rfl) (Nat.le_of_ble_eq_true rfl) dX11_isStep_14
set_option maxHeartbeats 4000000 in
set_option maxRecDepth 100000 in
theorem sX11_refusalOfShame (l : Launch) (dC : Nat → ClassId) (dI : Nat → Nat → Nat) (cy : Nat → ClassId) (h0 : Nat) (h_tape : Nat) (h_now : Nat) (h_trial : Nat) (h_kept : Nat) (h_images : Nat) (h_way : Nat) (h_otherWay : Nat) (h_flood : Nat) (h_cutSearch : Nat) (h_drySearch : Nat) (h_guess : Nat) (h_fraction : Nat) (h_told : Nat) (h_draft : Nat) (h_keptCount : Int32) (h_imageCount : Int32) (h_trouble : Int32) (h_now_ground : Nat) (h_now_at : Nat) (h_now_fell : Nat) (h_now_went : Nat) (h_now_walkers : Int32) (h_now_ground_wide : Int32) (h_now_ground_deep : Int32) (h_now_ground_count : Int32) (h_now_ground_sorts : Nat) (p1 : Int32) (hh_keptCount : 0 ≤ h_keptCount.toInt ∧ h_keptCount.toInt ≤ 16) (hh_imageCount : 0 ≤ h_imageCount.toInt ∧ h_imageCount.toInt ≤ 3) (hh_now_walkers : 0 ≤ h_now_walkers.toInt ∧ h_now_walkers.toInt ≤ 4) (hh_now_ground_wide : 0 ≤ h_now_ground_wide.toInt ∧ h_now_ground_wide.toInt ≤ 5) (hh_now_ground_deep : 0 ≤ h_now_ground_deep.toInt ∧ h_now_ground_deep.toInt ≤ 4) (hh_now_ground_count : 0 ≤ h_now_ground_count.toInt ∧ h_now_ground_count.toInt ≤ 20) : ctI l dC dI cy hp yX11_refusalOfShame cX11_refusalOfShame 2 .int ({ frames := 1, cells := 0, slots := 0, locals := 20 } : Room) [.ref h0, .int p1] [(h0, .inr (10, [.ref h_tape, .ref h_now, .ref h_trial, .ref h_kept, .ref h_images, .ref h_way, .ref h_otherWay, .ref h_flood, .ref h_cutSearch, .ref h_drySearch, .ref h_guess, .ref h_fraction, .ref h_told, .ref h_draft, .int h_keptCount, .int h_imageCount, .int h_trouble])), (h_now, .inr (6, [.ref h_now_ground, .ref h_now_at, .ref h_now_fell, .ref h_now_went, .int h_now_walkers])), (h_now_ground, .inr (4, [.int h_now_ground_wide, .int h_now_ground_deep, .int h_now_ground_count, .ref h_now_ground_sorts]))] (S := Unit) (fun r _ => (0 ≤ r.toInt ∧ r.toInt ≤ 2) ∧ ((r.toInt = 1 ∧ h_now_ground_count.toInt ≤ 0) ∨ (r.toInt = 2 ∧ 0 < h_now_ground_count.toInt ∧ (p1.toInt < 0 ∨ 9 < p1.toInt)) ∨ (r.toInt = 0 ∧ 0 < h_now_ground_count.toInt ∧ 0 ≤ p1.toInt ∧ p1.toInt ≤ 9))) (fun _ => [(h0, .inr (10, [.ref h_tape, .ref h_now, .ref h_trial, .ref h_kept, .ref h_images, .ref h_way, .ref h_otherWay, .ref h_flood, .ref h_cutSearch, .ref h_drySearch, .ref h_guess, .ref h_fraction, .ref h_told, .ref h_draft, .int h_keptCount, .int h_imageCount, .int h_trouble])), (h_now, .inr (6, [.ref h_now_ground, .ref h_now_at, .ref h_now_fell, .ref h_now_went, .int h_now_walkers])), (h_now_ground, .inr (4, [.int h_now_ground_wide, .int h_now_ground_deep, .int h_now_ground_count, .ref h_now_ground_sorts]))]) := by
  refine ctI.of (by decide +kernel) (Nat.le_of_ble_eq_true rfl) ?_
  intro p e s m args below meth c A ls Q hQ X hr hlocks hin hA hP hD hS hl
  have hx := X.1
  have hb := X.2.1
  have hK := X.2.2.2.2.2.1
  have hl : lv_has ls 2 [(0, .ref h0), (1, .int p1)] := hl
  have dy_1 := ti_bd p1
  refine lv_aload_n hx hb dX11_refusalOfShame_0 rfl (lv_at hl 0 rfl) ?_
  refine sl_Ic (rV_I (As := []) (rest := []) X hp_st (fun _ _ _ h => h) (sX11_hasPark l dC dI cy h0 h_tape h_now h_trial h_kept h_images h_way h_otherWay h_flood h_cutSearch h_drySearch h_guess h_fraction h_told h_draft h_keptCount h_imageCount h_trouble h_now_ground h_now_at h_now_fell h_now_went h_now_walkers h_now_ground_wide h_now_ground_deep h_now_ground_count h_now_ground_sorts hh_keptCount hh_imageCount hh_now_walkers hh_now_ground_wide hh_now_ground_deep hh_now_ground_count) kX11_hasPark vX11_hasPark mX11_188 hP hD hS hA [0, 1, 2] (by decide) rfl 0 (ci := 10) rfl rfl rfl hl rfl rfl (Nat.le_of_ble_eq_true rfl) dX11_refusalOfShame_1 ⟨(Nat.le_of_ble_eq_true rfl), (Nat.le_of_ble_eq_true rfl)⟩ ⟨(Nat.le_of_ble_eq_true rfl), (Nat.le_of_ble_eq_true rfl)⟩) hP hD hS hA [0, 1, 2] [false, false, false] rfl rfl rfl (fun r_2 u_4 H locs k_3 hP hD hS => ?_)
  have k_3 : (0 ≤ r_2.toInt ∧ r_2.toInt ≤ 1) ∧ ((r_2.toInt = 1 ∧ 0 < h_now_ground_count.toInt) ∨ (r_2.toInt = 0 ∧ h_now_ground_count.toInt ≤ 0)) := k_3
  obtain ⟨k_3_0, k_3_1⟩ := k_3
  have hPD := vPD (ws' := [(h0, .inr (10, [.ref h_tape, .ref h_now, .ref h_trial, .ref h_kept, .ref h_images, .ref h_way, .ref h_otherWay, .ref h_flood, .ref h_cutSearch, .ref h_drySearch, .ref h_guess, .ref h_fraction, .ref h_told, .ref h_draft, .int h_keptCount, .int h_imageCount, .int h_trouble])), (h_now, .inr (6, [.ref h_now_ground, .ref h_now_at, .ref h_now_fell, .ref h_now_went, .int h_now_walkers])), (h_now_ground, .inr (4, [.int h_now_ground_wide, .int h_now_ground_deep, .int h_now_ground_count, .ref h_now_ground_sorts]))]) hP hD rfl
  have hP := hPD.1
  have hD := hPD.2
  refine lv_if_ne (tgt := 9) hx hb dX11_refusalOfShame_4 (by decide) (fun h_5 => ?_) (fun h_5 => ?_)
  · have h_5 : r_2.toInt ≠ 0 := c_ne h_5
    refine lv_iload_n hx hb dX11_refusalOfShame_9 rfl (lv_at hl 1 rfl) ?_
    refine lv_if_lt (tgt := 19) hx hb dX11_refusalOfShame_10 (by decide) (fun h_6 => ?_) (fun h_6 => ?_)
    · have h_6 : p1.toInt < 0 := c_lt h_6
      refine lv_iconst (v := 2) hx hb dX11_refusalOfShame_19 (by decide) ?_
      refine lv_goto (tgt := 24) hx hb dX11_refusalOfShame_20 (by decide) ?_
      exact eI hQ X hr hlocks hP hD hS () [0, 1, 2] (by decide) rfl rfl (show (0 ≤ (2 : Int32).toInt ∧ (2 : Int32).toInt ≤ 2) ∧ (((2 : Int32).toInt = 1 ∧ h_now_ground_count.toInt ≤ 0) ∨ ((2 : Int32).toInt = 2 ∧ 0 < h_now_ground_count.toInt ∧ (p1.toInt < 0 ∨ 9 < p1.toInt)) ∨ ((2 : Int32).toInt = 0 ∧ 0 < h_now_ground_count.toInt ∧ 0 ≤ p1.toInt ∧ p1.toInt ≤ 9)) from ⟨(by first | decide | (have h9_0 : (2 : Int32).toInt = 2 := (by decide); omega) | (refine ⟨by decide, ?_⟩; omega) | omega), (Or.inr (Or.inl ⟨by decide, by omega, by omega⟩))⟩) (Nat.le_of_ble_eq_true rfl) (Nat.le_of_ble_eq_true rfl) dX11_refusalOfShame_24
    · have h_6 : 0 ≤ p1.toInt := c_nlt h_6
      refine lv_iload_n hx hb dX11_refusalOfShame_13 rfl (lv_at hl 1 rfl) ?_
      refine lv_bipush (v := 9) hx hb dX11_refusalOfShame_14 (by decide) ?_
      refine lv_icmp_le (tgt := 23) hx hb dX11_refusalOfShame_16 (by decide) (fun h_7 => ?_) (fun h_7 => ?_)
      · have h_7 : p1.toInt ≤ 9 := c_le h_7
        refine lv_iconst (v := 0) hx hb dX11_refusalOfShame_23 (by decide) ?_
        exact eI hQ X hr hlocks hP hD hS () [0, 1, 2] (by decide) rfl rfl (show (0 ≤ (0 : Int32).toInt ∧ (0 : Int32).toInt ≤ 2) ∧ (((0 : Int32).toInt = 1 ∧ h_now_ground_count.toInt ≤ 0) ∨ ((0 : Int32).toInt = 2 ∧ 0 < h_now_ground_count.toInt ∧ (p1.toInt < 0 ∨ 9 < p1.toInt)) ∨ ((0 : Int32).toInt = 0 ∧ 0 < h_now_ground_count.toInt ∧ 0 ≤ p1.toInt ∧ p1.toInt ≤ 9)) from ⟨(by first | decide | (have h9_0 : (0 : Int32).toInt = 0 := (by decide); omega) | (refine ⟨by decide, ?_⟩; omega) | omega), (Or.inr (Or.inr ⟨by decide, by omega, by omega, by omega⟩))⟩) (Nat.le_of_ble_eq_true rfl) (Nat.le_of_ble_eq_true rfl) dX11_refusalOfShame_24
      · have h_7 : 9 < p1.toInt := c_nle h_7
        refine lv_iconst (v := 2) hx hb dX11_refusalOfShame_19 (by decide) ?_
        refine lv_goto (tgt := 24) hx hb dX11_refusalOfShame_20 (by decide) ?_
        exact eI hQ X hr hlocks hP hD hS () [0, 1, 2] (by decide) rfl rfl (show (0 ≤ (2 : Int32).toInt ∧ (2 : Int32).toInt ≤ 2) ∧ (((2 : Int32).toInt = 1 ∧ h_now_ground_count.toInt ≤ 0) ∨ ((2 : Int32).toInt = 2 ∧ 0 < h_now_ground_count.toInt ∧ (p1.toInt < 0 ∨ 9 < p1.toInt)) ∨ ((2 : Int32).toInt = 0 ∧ 0 < h_now_ground_count.toInt ∧ 0 ≤ p1.toInt ∧ p1.toInt ≤ 9)) from ⟨(by first | decide | (have h9_0 : (2 : Int32).toInt = 2 := (by decide); omega) | (refine ⟨by decide, ?_⟩; omega) | omega), (Or.inr (Or.inl ⟨by decide, by omega, by omega⟩))⟩) (Nat.le_of_ble_eq_true rfl) (Nat.le_of_ble_eq_true rfl) dX11_refusalOfShame_24
  · have h_5 : r_2.toInt = 0 := c_eq h_5
    refine lv_iconst (v := 1) hx hb dX11_refusalOfShame_7 (by decide) ?_
    exact eI hQ X hr hlocks hP hD hS () [0, 1, 2] (by decide) rfl rfl (show (0 ≤ (1 : Int32).toInt ∧ (1 : Int32).toInt ≤ 2) ∧ (((1 : Int32).toInt = 1 ∧ h_now_ground_count.toInt ≤ 0) ∨ ((1 : Int32).toInt = 2 ∧ 0 < h_now_ground_count.toInt ∧ (p1.toInt < 0 ∨ 9 < p1.toInt)) ∨ ((1 : Int32).toInt = 0 ∧ 0 < h_now_ground_count.toInt ∧ 0 ≤ p1.toInt ∧ p1.toInt ≤ 9)) from ⟨(by first | decide | (have h9_0 : (1 : Int32).toInt = 1 := (by decide); omega) | (refine ⟨by decide, ?_⟩; omega) | omega), (Or.inl ⟨by decide, by omega⟩)⟩) (Nat.le_of_ble_eq_true rfl) (Nat.le_of_ble_eq_true rfl) dX11_refusalOfShame_8
set_option maxHeartbeats 4000000 in
set_option maxRecDepth 100000 in
theorem sX11_refusalOfRamble (l : Launch) (dC : Nat → ClassId) (dI : Nat → Nat → Nat) (cy : Nat → ClassId) (h0 : Nat) (h_tape : Nat) (h_now : Nat) (h_trial : Nat) (h_kept : Nat) (h_images : Nat) (h_way : Nat) (h_otherWay : Nat) (h_flood : Nat) (h_cutSearch : Nat) (h_drySearch : Nat) (h_guess : Nat) (h_fraction : Nat) (h_told : Nat) (h_draft : Nat) (h_keptCount : Int32) (h_imageCount : Int32) (h_trouble : Int32) (h_told_ground : Nat) (h_told_errs : Int32) (h_told_slips : Int32) (h_told_rows : Int32) (h_told_unsureCount : Int32) (h_told_unsure : Nat) (h_told_walkers : Int32) (h_told_names : Nat) (h_told_kinds : Nat) (h_told_starts : Nat) (h_told_goals : Nat) (h_told_walks : Int32) (h_told_walkStarts : Nat) (h_told_walkSteps : Nat) (h_told_walkFell : Nat) (p1 : Int32) (p2 : Int32) (p3 : Int32) (hh_keptCount : 0 ≤ h_keptCount.toInt ∧ h_keptCount.toInt ≤ 16) (hh_imageCount : 0 ≤ h_imageCount.toInt ∧ h_imageCount.toInt ≤ 3) (hh_told_rows : 0 ≤ h_told_rows.toInt ∧ h_told_rows.toInt ≤ 4) (hh_told_unsureCount : 0 ≤ h_told_unsureCount.toInt ∧ h_told_unsureCount.toInt ≤ 5) (hh_told_walkers : 0 ≤ h_told_walkers.toInt ∧ h_told_walkers.toInt ≤ 4) (hh_told_walks : 0 ≤ h_told_walks.toInt ∧ h_told_walks.toInt ≤ 6) : ctI l dC dI cy hp yX11_refusalOfRamble cX11_refusalOfRamble 5 .int ({ frames := 1, cells := 0, slots := 0, locals := 21 } : Room) [.ref h0, .int p1, .int p2, .int p3] [(h0, .inr (10, [.ref h_tape, .ref h_now, .ref h_trial, .ref h_kept, .ref h_images, .ref h_way, .ref h_otherWay, .ref h_flood, .ref h_cutSearch, .ref h_drySearch, .ref h_guess, .ref h_fraction, .ref h_told, .ref h_draft, .int h_keptCount, .int h_imageCount, .int h_trouble])), (h_told, .inr (7, [.ref h_told_ground, .int h_told_errs, .int h_told_slips, .int h_told_rows, .int h_told_unsureCount, .ref h_told_unsure, .int h_told_walkers, .ref h_told_names, .ref h_told_kinds, .ref h_told_starts, .ref h_told_goals, .int h_told_walks, .ref h_told_walkStarts, .ref h_told_walkSteps, .ref h_told_walkFell]))] (S := Unit) (fun r _ => (0 ≤ r.toInt ∧ r.toInt ≤ 2) ∧ ((r.toInt = 0 ∧ 0 ≤ p1.toInt ∧ p1.toInt < h_told_walkers.toInt ∧ 0 ≤ p2.toInt ∧ p2.toInt ≤ 65536 ∧ 0 ≤ p3.toInt ∧ p3.toInt ≤ 90) ∨ (r.toInt ≠ 0 ∧ rmB h_told_walkers.toInt p1.toInt p2.toInt p3.toInt))) (fun _ => [(h0, .inr (10, [.ref h_tape, .ref h_now, .ref h_trial, .ref h_kept, .ref h_images, .ref h_way, .ref h_otherWay, .ref h_flood, .ref h_cutSearch, .ref h_drySearch, .ref h_guess, .ref h_fraction, .ref h_told, .ref h_draft, .int h_keptCount, .int h_imageCount, .int h_trouble])), (h_told, .inr (7, [.ref h_told_ground, .int h_told_errs, .int h_told_slips, .int h_told_rows, .int h_told_unsureCount, .ref h_told_unsure, .int h_told_walkers, .ref h_told_names, .ref h_told_kinds, .ref h_told_starts, .ref h_told_goals, .int h_told_walks, .ref h_told_walkStarts, .ref h_told_walkSteps, .ref h_told_walkFell]))]) := by
  refine ctI.of (by decide +kernel) (Nat.le_of_ble_eq_true rfl) ?_
  intro p e s m args below meth c A ls Q hQ X hr hlocks hin hA hP hD hS hl
  have hx := X.1
  have hb := X.2.1
  have hK := X.2.2.2.2.2.1
  have hl : lv_has ls 5 [(0, .ref h0), (1, .int p1), (2, .int p2), (3, .int p3)] := hl
  have dy_1 := ti_bd p1
  have dy_2 := ti_bd p2
  have dy_3 := ti_bd p3
  refine lv_aload_n hx hb dX11_refusalOfRamble_0 rfl (lv_at hl 0 rfl) ?_
  refine lv_iload_n hx hb dX11_refusalOfRamble_1 rfl (lv_at hl 1 rfl) ?_
  refine sl_Ic (rV_I (As := [.int p1]) (rest := []) X hp_st (fun _ _ _ h => h) (sX11_isWalker l dC dI cy h0 h_tape h_now h_trial h_kept h_images h_way h_otherWay h_flood h_cutSearch h_drySearch h_guess h_fraction h_told h_draft h_keptCount h_imageCount h_trouble h_told_ground h_told_errs h_told_slips h_told_rows h_told_unsureCount h_told_unsure h_told_walkers h_told_names h_told_kinds h_told_starts h_told_goals h_told_walks h_told_walkStarts h_told_walkSteps h_told_walkFell p1 hh_keptCount hh_imageCount hh_told_rows hh_told_unsureCount hh_told_walkers hh_told_walks) kX11_isWalker vX11_isWalker mX11_159 hP hD hS hA [0, 1] (by decide) rfl 0 (ci := 10) rfl rfl rfl hl rfl rfl (Nat.le_of_ble_eq_true rfl) dX11_refusalOfRamble_2 ⟨(Nat.le_of_ble_eq_true rfl), (Nat.le_of_ble_eq_true rfl)⟩ ⟨(Nat.le_of_ble_eq_true rfl), (Nat.le_of_ble_eq_true rfl)⟩) hP hD hS hA [0, 1] [false, false] rfl rfl rfl (fun r_4 u_6 H locs k_5 hP hD hS => ?_)
  have k_5 : (0 ≤ r_4.toInt ∧ r_4.toInt ≤ 1) ∧ ((r_4.toInt = 1 ∧ 0 ≤ p1.toInt ∧ p1.toInt < h_told_walkers.toInt) ∨ (r_4.toInt = 0 ∧ (p1.toInt < 0 ∨ h_told_walkers.toInt ≤ p1.toInt))) := k_5
  obtain ⟨k_5_0, k_5_1⟩ := k_5
  have hPD := vPD (ws' := [(h0, .inr (10, [.ref h_tape, .ref h_now, .ref h_trial, .ref h_kept, .ref h_images, .ref h_way, .ref h_otherWay, .ref h_flood, .ref h_cutSearch, .ref h_drySearch, .ref h_guess, .ref h_fraction, .ref h_told, .ref h_draft, .int h_keptCount, .int h_imageCount, .int h_trouble])), (h_told, .inr (7, [.ref h_told_ground, .int h_told_errs, .int h_told_slips, .int h_told_rows, .int h_told_unsureCount, .ref h_told_unsure, .int h_told_walkers, .ref h_told_names, .ref h_told_kinds, .ref h_told_starts, .ref h_told_goals, .int h_told_walks, .ref h_told_walkStarts, .ref h_told_walkSteps, .ref h_told_walkFell]))]) hP hD rfl
  have hP := hPD.1
  have hD := hPD.2
  refine lv_if_ne (tgt := 10) hx hb dX11_refusalOfRamble_5 (by decide) (fun h_7 => ?_) (fun h_7 => ?_)
  · have h_7 : r_4.toInt ≠ 0 := c_ne h_7
    refine lv_iload_n hx hb dX11_refusalOfRamble_10 rfl (lv_at hl 2 rfl) ?_
    refine lv_if_lt (tgt := 35) hx hb dX11_refusalOfRamble_11 (by decide) (fun h_8 => ?_) (fun h_8 => ?_)
    · have h_8 : p2.toInt < 0 := c_lt h_8
      refine lv_iconst (v := 0) hx hb dX11_refusalOfRamble_35 (by decide) ?_
      refine lv_istore (lv' := [(4, .int 0), (0, .ref h0), (1, .int p1), (2, .int p2), (3, .int p3)]) hx hb dX11_refusalOfRamble_36 hl (by decide) rfl (fun ls hl => ?_)
      refine lv_iload hx hb dX11_refusalOfRamble_38 (lv_at hl 0 rfl) ?_
      refine lv_if_eq (tgt := 47) hx hb dX11_refusalOfRamble_40 (by decide) (fun _ => ?_) (fun h_9 => absurd (by decide) h_9)
      refine lv_iconst (v := 2) hx hb dX11_refusalOfRamble_47 (by decide) ?_
      exact eI hQ X hr hlocks hP hD hS () [0, 1] (by decide) rfl rfl (show (0 ≤ (2 : Int32).toInt ∧ (2 : Int32).toInt ≤ 2) ∧ (((2 : Int32).toInt = 0 ∧ 0 ≤ p1.toInt ∧ p1.toInt < h_told_walkers.toInt ∧ 0 ≤ p2.toInt ∧ p2.toInt ≤ 65536 ∧ 0 ≤ p3.toInt ∧ p3.toInt ≤ 90) ∨ ((2 : Int32).toInt ≠ 0 ∧ rmB h_told_walkers.toInt p1.toInt p2.toInt p3.toInt)) from ⟨(by first | decide | (have h9_0 : (2 : Int32).toInt = 2 := (by decide); omega) | (refine ⟨by decide, ?_⟩; omega) | omega), (Or.inr ⟨by decide, (by unfold rmB; omega)⟩)⟩) (Nat.le_of_ble_eq_true rfl) (Nat.le_of_ble_eq_true rfl) dX11_refusalOfRamble_48
    · have h_8 : 0 ≤ p2.toInt := c_nlt h_8
      refine lv_iload_n hx hb dX11_refusalOfRamble_14 rfl (lv_at hl 2 rfl) ?_
      refine lv_ldcw (v := 65537) hx hb X.2.2.2.1 (X.2.2.2.2.1 _ w_1187) dX11_refusalOfRamble_15 ?_
      refine lv_icmp_ge (tgt := 35) hx hb dX11_refusalOfRamble_18 (by decide) (fun h_10 => ?_) (fun h_10 => ?_)
      · have h_10 : 65537 ≤ p2.toInt := c_le h_10
        refine lv_iconst (v := 0) hx hb dX11_refusalOfRamble_35 (by decide) ?_
        refine lv_istore (lv' := [(4, .int 0), (0, .ref h0), (1, .int p1), (2, .int p2), (3, .int p3)]) hx hb dX11_refusalOfRamble_36 hl (by decide) rfl (fun ls hl => ?_)
        refine lv_iload hx hb dX11_refusalOfRamble_38 (lv_at hl 0 rfl) ?_
        refine lv_if_eq (tgt := 47) hx hb dX11_refusalOfRamble_40 (by decide) (fun _ => ?_) (fun h_11 => absurd (by decide) h_11)
        refine lv_iconst (v := 2) hx hb dX11_refusalOfRamble_47 (by decide) ?_
        exact eI hQ X hr hlocks hP hD hS () [0, 1] (by decide) rfl rfl (show (0 ≤ (2 : Int32).toInt ∧ (2 : Int32).toInt ≤ 2) ∧ (((2 : Int32).toInt = 0 ∧ 0 ≤ p1.toInt ∧ p1.toInt < h_told_walkers.toInt ∧ 0 ≤ p2.toInt ∧ p2.toInt ≤ 65536 ∧ 0 ≤ p3.toInt ∧ p3.toInt ≤ 90) ∨ ((2 : Int32).toInt ≠ 0 ∧ rmB h_told_walkers.toInt p1.toInt p2.toInt p3.toInt)) from ⟨(by first | decide | (have h9_0 : (2 : Int32).toInt = 2 := (by decide); omega) | (refine ⟨by decide, ?_⟩; omega) | omega), (Or.inr ⟨by decide, (by unfold rmB; omega)⟩)⟩) (Nat.le_of_ble_eq_true rfl) (Nat.le_of_ble_eq_true rfl) dX11_refusalOfRamble_48
      · have h_10 : p2.toInt < 65537 := c_nle h_10
        refine lv_iload_n hx hb dX11_refusalOfRamble_21 rfl (lv_at hl 3 rfl) ?_
        refine lv_if_lt (tgt := 35) hx hb dX11_refusalOfRamble_22 (by decide) (fun h_12 => ?_) (fun h_12 => ?_)
        · have h_12 : p3.toInt < 0 := c_lt h_12
          refine lv_iconst (v := 0) hx hb dX11_refusalOfRamble_35 (by decide) ?_
          refine lv_istore (lv' := [(4, .int 0), (0, .ref h0), (1, .int p1), (2, .int p2), (3, .int p3)]) hx hb dX11_refusalOfRamble_36 hl (by decide) rfl (fun ls hl => ?_)
          refine lv_iload hx hb dX11_refusalOfRamble_38 (lv_at hl 0 rfl) ?_
          refine lv_if_eq (tgt := 47) hx hb dX11_refusalOfRamble_40 (by decide) (fun _ => ?_) (fun h_13 => absurd (by decide) h_13)
          refine lv_iconst (v := 2) hx hb dX11_refusalOfRamble_47 (by decide) ?_
          exact eI hQ X hr hlocks hP hD hS () [0, 1] (by decide) rfl rfl (show (0 ≤ (2 : Int32).toInt ∧ (2 : Int32).toInt ≤ 2) ∧ (((2 : Int32).toInt = 0 ∧ 0 ≤ p1.toInt ∧ p1.toInt < h_told_walkers.toInt ∧ 0 ≤ p2.toInt ∧ p2.toInt ≤ 65536 ∧ 0 ≤ p3.toInt ∧ p3.toInt ≤ 90) ∨ ((2 : Int32).toInt ≠ 0 ∧ rmB h_told_walkers.toInt p1.toInt p2.toInt p3.toInt)) from ⟨(by first | decide | (have h9_0 : (2 : Int32).toInt = 2 := (by decide); omega) | (refine ⟨by decide, ?_⟩; omega) | omega), (Or.inr ⟨by decide, (by unfold rmB; omega)⟩)⟩) (Nat.le_of_ble_eq_true rfl) (Nat.le_of_ble_eq_true rfl) dX11_refusalOfRamble_48
        · have h_12 : 0 ≤ p3.toInt := c_nlt h_12
          refine lv_iload_n hx hb dX11_refusalOfRamble_25 rfl (lv_at hl 3 rfl) ?_
          refine lv_bipush (v := 90) hx hb dX11_refusalOfRamble_26 (by decide) ?_
          refine lv_icmp_gt (tgt := 35) hx hb dX11_refusalOfRamble_28 (by decide) (fun h_14 => ?_) (fun h_14 => ?_)
          · have h_14 : 90 < p3.toInt := c_lt h_14
            refine lv_iconst (v := 0) hx hb dX11_refusalOfRamble_35 (by decide) ?_
            refine lv_istore (lv' := [(4, .int 0), (0, .ref h0), (1, .int p1), (2, .int p2), (3, .int p3)]) hx hb dX11_refusalOfRamble_36 hl (by decide) rfl (fun ls hl => ?_)
            refine lv_iload hx hb dX11_refusalOfRamble_38 (lv_at hl 0 rfl) ?_
            refine lv_if_eq (tgt := 47) hx hb dX11_refusalOfRamble_40 (by decide) (fun _ => ?_) (fun h_15 => absurd (by decide) h_15)
            refine lv_iconst (v := 2) hx hb dX11_refusalOfRamble_47 (by decide) ?_
            exact eI hQ X hr hlocks hP hD hS () [0, 1] (by decide) rfl rfl (show (0 ≤ (2 : Int32).toInt ∧ (2 : Int32).toInt ≤ 2) ∧ (((2 : Int32).toInt = 0 ∧ 0 ≤ p1.toInt ∧ p1.toInt < h_told_walkers.toInt ∧ 0 ≤ p2.toInt ∧ p2.toInt ≤ 65536 ∧ 0 ≤ p3.toInt ∧ p3.toInt ≤ 90) ∨ ((2 : Int32).toInt ≠ 0 ∧ rmB h_told_walkers.toInt p1.toInt p2.toInt p3.toInt)) from ⟨(by first | decide | (have h9_0 : (2 : Int32).toInt = 2 := (by decide); omega) | (refine ⟨by decide, ?_⟩; omega) | omega), (Or.inr ⟨by decide, (by unfold rmB; omega)⟩)⟩) (Nat.le_of_ble_eq_true rfl) (Nat.le_of_ble_eq_true rfl) dX11_refusalOfRamble_48
          · have h_14 : p3.toInt ≤ 90 := c_nlt h_14
            refine lv_iconst (v := 1) hx hb dX11_refusalOfRamble_31 (by decide) ?_
            refine lv_goto (tgt := 36) hx hb dX11_refusalOfRamble_32 (by decide) ?_
            refine lv_istore (lv' := [(4, .int 1), (0, .ref h0), (1, .int p1), (2, .int p2), (3, .int p3)]) hx hb dX11_refusalOfRamble_36 hl (by decide) rfl (fun ls hl => ?_)
            refine lv_iload hx hb dX11_refusalOfRamble_38 (lv_at hl 0 rfl) ?_
            refine lv_if_eq (tgt := 47) hx hb dX11_refusalOfRamble_40 (by decide) (fun h_16 => absurd h_16 (by decide)) (fun _ => ?_)
            refine lv_iconst (v := 0) hx hb dX11_refusalOfRamble_43 (by decide) ?_
            refine lv_goto (tgt := 48) hx hb dX11_refusalOfRamble_44 (by decide) ?_
            exact eI hQ X hr hlocks hP hD hS () [0, 1] (by decide) rfl rfl (show (0 ≤ (0 : Int32).toInt ∧ (0 : Int32).toInt ≤ 2) ∧ (((0 : Int32).toInt = 0 ∧ 0 ≤ p1.toInt ∧ p1.toInt < h_told_walkers.toInt ∧ 0 ≤ p2.toInt ∧ p2.toInt ≤ 65536 ∧ 0 ≤ p3.toInt ∧ p3.toInt ≤ 90) ∨ ((0 : Int32).toInt ≠ 0 ∧ rmB h_told_walkers.toInt p1.toInt p2.toInt p3.toInt)) from ⟨(by first | decide | (have h9_0 : (0 : Int32).toInt = 0 := (by decide); omega) | (refine ⟨by decide, ?_⟩; omega) | omega), (Or.inl ⟨by decide, by omega, by omega, by omega, by omega, by omega, by omega⟩)⟩) (Nat.le_of_ble_eq_true rfl) (Nat.le_of_ble_eq_true rfl) dX11_refusalOfRamble_48
  · have h_7 : r_4.toInt = 0 := c_eq h_7
    refine lv_iconst (v := 1) hx hb dX11_refusalOfRamble_8 (by decide) ?_
    exact eI hQ X hr hlocks hP hD hS () [0, 1] (by decide) rfl rfl (show (0 ≤ (1 : Int32).toInt ∧ (1 : Int32).toInt ≤ 2) ∧ (((1 : Int32).toInt = 0 ∧ 0 ≤ p1.toInt ∧ p1.toInt < h_told_walkers.toInt ∧ 0 ≤ p2.toInt ∧ p2.toInt ≤ 65536 ∧ 0 ≤ p3.toInt ∧ p3.toInt ≤ 90) ∨ ((1 : Int32).toInt ≠ 0 ∧ rmB h_told_walkers.toInt p1.toInt p2.toInt p3.toInt)) from ⟨(by first | decide | (have h9_0 : (1 : Int32).toInt = 1 := (by decide); omega) | (refine ⟨by decide, ?_⟩; omega) | omega), (Or.inr ⟨by decide, (by unfold rmB; omega)⟩)⟩) (Nat.le_of_ble_eq_true rfl) (Nat.le_of_ble_eq_true rfl) dX11_refusalOfRamble_9
set_option maxHeartbeats 4000000 in
set_option maxRecDepth 100000 in
theorem sX11_findQuick (l : Launch) (dC : Nat → ClassId) (dI : Nat → Nat → Nat) (cy : Nat → ClassId) (h0 : Nat) (h_tape : Nat) (h_now : Nat) (h_trial : Nat) (h_kept : Nat) (h_images : Nat) (h_way : Nat) (h_otherWay : Nat) (h_flood : Nat) (h_cutSearch : Nat) (h_drySearch : Nat) (h_guess : Nat) (h_fraction : Nat) (h_told : Nat) (h_draft : Nat) (h_keptCount : Int32) (h_imageCount : Int32) (h_trouble : Int32) (h_now_ground : Nat) (h_now_at : Nat) (h_now_fell : Nat) (h_now_went : Nat) (h_now_walkers : Int32) (h_now_ground_wide : Int32) (h_now_ground_deep : Int32) (h_now_ground_count : Int32) (h_now_ground_sorts : Nat) (h_now_ground_sortsf : Nat → Int32) (h_now_atf : Nat → Int32) (h_told_ground : Nat) (h_told_errs : Int32) (h_told_slips : Int32) (h_told_rows : Int32) (h_told_unsureCount : Int32) (h_told_unsure : Nat) (h_told_walkers : Int32) (h_told_names : Nat) (h_told_kinds : Nat) (h_told_starts : Nat) (h_told_goals : Nat) (h_told_walks : Int32) (h_told_walkStarts : Nat) (h_told_walkSteps : Nat) (h_told_walkFell : Nat) (h_told_kindsf : Nat → Int32) (h_told_goalsf : Nat → Int32) (h1 : Nat) (y_targets : Nat) (y_weights : Nat) (y_left : Nat) (y_steps : Nat) (y_places : Nat) (y_arrivals : Nat) (y_length : Int32) (y_fallCount : Int32) (y_targetsf : Nat → Int32) (y_weightsf : Nat → Int32) (y_leftf : Nat → Int32) (y_stepsf : Nat → Int32) (y_placesf : Nat → Int32) (y_arrivalsf : Nat → Int32) (p2 : Int32) (hh_keptCount : 0 ≤ h_keptCount.toInt ∧ h_keptCount.toInt ≤ 16) (hh_imageCount : 0 ≤ h_imageCount.toInt ∧ h_imageCount.toInt ≤ 3) (hh_now_walkers : 0 ≤ h_now_walkers.toInt ∧ h_now_walkers.toInt ≤ 4) (hh_now_ground_wide : 0 ≤ h_now_ground_wide.toInt ∧ h_now_ground_wide.toInt ≤ 5) (hh_now_ground_deep : 0 ≤ h_now_ground_deep.toInt ∧ h_now_ground_deep.toInt ≤ 4) (hh_now_ground_count : 0 ≤ h_now_ground_count.toInt ∧ h_now_ground_count.toInt ≤ 20) (hh_now_atf : rb h_now_atf 4 0 19) (hh_told_rows : 0 ≤ h_told_rows.toInt ∧ h_told_rows.toInt ≤ 4) (hh_told_unsureCount : 0 ≤ h_told_unsureCount.toInt ∧ h_told_unsureCount.toInt ≤ 5) (hh_told_walkers : 0 ≤ h_told_walkers.toInt ∧ h_told_walkers.toInt ≤ 4) (hh_told_walks : 0 ≤ h_told_walks.toInt ∧ h_told_walks.toInt ≤ 6) (hy_length : 0 ≤ y_length.toInt ∧ y_length.toInt ≤ 20) (hy_targetsf : rb y_targetsf 80 (-1) 19) (hy_placesf : rb y_placesf 21 0 19) (hy_arrivalsf : rbk y_arrivalsf 21 (-2) 4) (hp2 : 0 ≤ p2.toInt ∧ p2.toInt ≤ 3) : ctI l dC dI cy hp yX11_findQuick cX11_findQuick 3 .boolean ({ frames := 4, cells := 0, slots := 0, locals := 100 } : Room) [.ref h0, .ref h1, .int p2] [(h0, .inr (10, [.ref h_tape, .ref h_now, .ref h_trial, .ref h_kept, .ref h_images, .ref h_way, .ref h_otherWay, .ref h_flood, .ref h_cutSearch, .ref h_drySearch, .ref h_guess, .ref h_fraction, .ref h_told, .ref h_draft, .int h_keptCount, .int h_imageCount, .int h_trouble])), (h_now, .inr (6, [.ref h_now_ground, .ref h_now_at, .ref h_now_fell, .ref h_now_went, .int h_now_walkers])), (h_now_ground, .inr (4, [.int h_now_ground_wide, .int h_now_ground_deep, .int h_now_ground_count, .ref h_now_ground_sorts])), (h_now_ground_sorts, .inl (cy 1, 20, .inl h_now_ground_sortsf)), (h_now_at, .inl (cy 1, 4, .inl h_now_atf)), (h_told, .inr (7, [.ref h_told_ground, .int h_told_errs, .int h_told_slips, .int h_told_rows, .int h_told_unsureCount, .ref h_told_unsure, .int h_told_walkers, .ref h_told_names, .ref h_told_kinds, .ref h_told_starts, .ref h_told_goals, .int h_told_walks, .ref h_told_walkStarts, .ref h_told_walkSteps, .ref h_told_walkFell])), (h_told_kinds, .inl (cy 1, 4, .inl h_told_kindsf)), (h_told_goals, .inl (cy 1, 4, .inl h_told_goalsf)), (h1, .inr (9, [.ref y_targets, .ref y_weights, .ref y_left, .ref y_steps, .ref y_places, .ref y_arrivals, .int y_length, .int y_fallCount])), (y_targets, .inl (cy 1, 80, .inl y_targetsf)), (y_weights, .inl (cy 1, 80, .inl y_weightsf)), (y_left, .inl (cy 1, 20, .inl y_leftf)), (y_steps, .inl (cy 1, 20, .inl y_stepsf)), (y_places, .inl (cy 1, 21, .inl y_placesf)), (y_arrivals, .inl (cy 1, 21, .inl y_arrivalsf))] (S := (Nat → Int32) × (Nat → Int32) × (Nat → Int32) × (Nat → Int32) × (Nat → Int32) × (Nat → Int32) × Int32 × Int32) (fun r u => (0 ≤ r.toInt ∧ r.toInt ≤ 1) ∧ (rb u.1 80 (-1) 19) ∧ (rb u.2.2.2.2.1 21 0 19) ∧ (rbk u.2.2.2.2.2.1 21 (-2) 4) ∧ (0 ≤ u.2.2.2.2.2.2.1.toInt ∧ u.2.2.2.2.2.2.1.toInt ≤ 20)) (fun u => [(h0, .inr (10, [.ref h_tape, .ref h_now, .ref h_trial, .ref h_kept, .ref h_images, .ref h_way, .ref h_otherWay, .ref h_flood, .ref h_cutSearch, .ref h_drySearch, .ref h_guess, .ref h_fraction, .ref h_told, .ref h_draft, .int h_keptCount, .int h_imageCount, .int h_trouble])), (h_now, .inr (6, [.ref h_now_ground, .ref h_now_at, .ref h_now_fell, .ref h_now_went, .int h_now_walkers])), (h_now_ground, .inr (4, [.int h_now_ground_wide, .int h_now_ground_deep, .int h_now_ground_count, .ref h_now_ground_sorts])), (h_now_ground_sorts, .inl (cy 1, 20, .inl h_now_ground_sortsf)), (h_now_at, .inl (cy 1, 4, .inl h_now_atf)), (h_told, .inr (7, [.ref h_told_ground, .int h_told_errs, .int h_told_slips, .int h_told_rows, .int h_told_unsureCount, .ref h_told_unsure, .int h_told_walkers, .ref h_told_names, .ref h_told_kinds, .ref h_told_starts, .ref h_told_goals, .int h_told_walks, .ref h_told_walkStarts, .ref h_told_walkSteps, .ref h_told_walkFell])), (h_told_kinds, .inl (cy 1, 4, .inl h_told_kindsf)), (h_told_goals, .inl (cy 1, 4, .inl h_told_goalsf)), (h1, .inr (9, [.ref y_targets, .ref y_weights, .ref y_left, .ref y_steps, .ref y_places, .ref y_arrivals, .int u.2.2.2.2.2.2.1, .int u.2.2.2.2.2.2.2])), (y_targets, .inl (cy 1, 80, .inl u.1)), (y_weights, .inl (cy 1, 80, .inl u.2.1)), (y_left, .inl (cy 1, 20, .inl u.2.2.1)), (y_steps, .inl (cy 1, 20, .inl u.2.2.2.1)), (y_places, .inl (cy 1, 21, .inl u.2.2.2.2.1)), (y_arrivals, .inl (cy 1, 21, .inl u.2.2.2.2.2.1))]) := by
  refine ctI.of (by decide +kernel) (Nat.le_of_ble_eq_true rfl) ?_
  intro p e s m args below meth c A ls Q hQ X hr hlocks hin hA hP hD hS hl
  have hx := X.1
  have hb := X.2.1
  have hK := X.2.2.2.2.2.1
  have hl : lv_has ls 3 [(0, .ref h0), (1, .ref h1), (2, .int p2)] := hl
  refine lv_aload_n hx hb dX11_findQuick_0 rfl (lv_at hl 1 rfl) ?_
  refine lv_aload_n hx hb dX11_findQuick_1 rfl (lv_at hl 0 rfl) ?_
  refine r_get X kcX11 (ci := 10) rfl hP 0 rfl 1 (by decide) fX11_19 rfl dX11_findQuick_2 ?_
  refine r_get X kcX6 (ci := 6) rfl hP 1 rfl 0 (by decide) fX11_121 rfl dX11_findQuick_5 ?_
  refine lv_aload_n hx hb dX11_findQuick_8 rfl (lv_at hl 0 rfl) ?_
  refine r_get X kcX11 (ci := 10) rfl hP 0 rfl 12 (by decide) fX11_81 rfl dX11_findQuick_9 ?_
  refine r_get X kcX7 (ci := 7) rfl hP 5 rfl 8 (by decide) fX11_162 rfl dX11_findQuick_12 ?_
  refine lv_iload_n hx hb dX11_findQuick_15 rfl (lv_at hl 2 rfl) ?_
  refine va_iald (D := (dC, dI)) (cl := vwCl) hx hb hK hP 6 1 rfl rfl (i := p2) (vin (by omega) (by omega)) dX11_findQuick_16 ?_
  refine lv_topi (fun x_1 ex_1 => ?_)
  refine lv_aload_n hx hb dX11_findQuick_17 rfl (lv_at hl 0 rfl) ?_
  refine r_get X kcX11 (ci := 10) rfl hP 0 rfl 1 (by decide) fX11_19 rfl dX11_findQuick_18 ?_
  refine r_get X kcX6 (ci := 6) rfl hP 1 rfl 1 (by decide) fX11_166 rfl dX11_findQuick_21 ?_
  refine lv_iload_n hx hb dX11_findQuick_24 rfl (lv_at hl 2 rfl) ?_
  refine va_iald (D := (dC, dI)) (cl := vwCl) hx hb hK hP 4 1 rfl rfl (i := p2) (vin (by omega) (by omega)) dX11_findQuick_25 ?_
  refine lv_topi (fun x_2 ex_2 => ?_)
  have bx_2 : 0 ≤ x_2.toInt ∧ x_2.toInt ≤ 19 := rb_at hh_now_atf ex_2 (by omega) (by omega)
  refine lv_aload_n hx hb dX11_findQuick_26 rfl (lv_at hl 0 rfl) ?_
  refine r_get X kcX11 (ci := 10) rfl hP 0 rfl 12 (by decide) fX11_81 rfl dX11_findQuick_27 ?_
  refine r_get X kcX7 (ci := 7) rfl hP 5 rfl 10 (by decide) fX11_169 rfl dX11_findQuick_30 ?_
  refine lv_iload_n hx hb dX11_findQuick_33 rfl (lv_at hl 2 rfl) ?_
  refine va_iald (D := (dC, dI)) (cl := vwCl) hx hb hK hP 7 1 rfl rfl (i := p2) (vin (by omega) (by omega)) dX11_findQuick_34 ?_
  refine lv_topi (fun x_3 ex_3 => ?_)
  refine lv_iconst (v := 0) hx hb dX11_findQuick_35 (by decide) ?_
  refine sl_Ic (rV_I (As := [.ref h_now_ground, .int x_1, .int x_2, .int x_3, .int 0]) (rest := []) X hp_st (fun _ _ _ h => h) (sX10_find l dC dI cy h1 y_targets y_weights y_left y_steps y_places y_arrivals y_length y_fallCount y_targetsf y_weightsf y_leftf y_stepsf y_placesf y_arrivalsf h_now_ground h_now_ground_wide h_now_ground_deep h_now_ground_count h_now_ground_sorts h_now_ground_sortsf x_1 x_2 x_3 0 hy_length hy_targetsf hy_placesf hy_arrivalsf hh_now_ground_wide hh_now_ground_deep hh_now_ground_count (by first | decide | omega)) kX10_find vX10_find mX11_374 hP hD hS hA [8, 9, 10, 11, 12, 13, 14, 2, 3] (by decide +kernel) rfl 0 (ci := 9) rfl rfl rfl hl rfl rfl (Nat.le_of_ble_eq_true rfl) dX11_findQuick_36 ⟨(Nat.le_of_ble_eq_true rfl), (Nat.le_of_ble_eq_true rfl)⟩ ⟨(Nat.le_of_ble_eq_true rfl), (Nat.le_of_ble_eq_true rfl)⟩) hP hD hS hA [8, 9, 10, 11, 12, 13, 14, 2, 3] [true, true, false, false, true, true, true, true, false, false, false, false, false, false, false] rfl rfl rfl (fun r_12 u_14 H locs k_13 hP hD hS => ?_)
  obtain ⟨y_targetsf1_4, y_weightsf1_5, y_leftf1_6, y_stepsf1_7, y_placesf1_8, y_arrivalsf1_9, y_length1_10, y_fallCount1_11⟩ := u_14
  have k_13 : (0 ≤ r_12.toInt ∧ r_12.toInt ≤ 1) ∧ (rb y_targetsf1_4 80 (-1) 19) ∧ (rb y_placesf1_8 21 0 19) ∧ (rbk y_arrivalsf1_9 21 (-2) 4) ∧ (0 ≤ y_length1_10.toInt ∧ y_length1_10.toInt ≤ 20) := k_13
  obtain ⟨k_13_0, k_13_1, k_13_2, k_13_3, k_13_4⟩ := k_13
  have hPD := vPD (ws' := [(h0, .inr (10, [.ref h_tape, .ref h_now, .ref h_trial, .ref h_kept, .ref h_images, .ref h_way, .ref h_otherWay, .ref h_flood, .ref h_cutSearch, .ref h_drySearch, .ref h_guess, .ref h_fraction, .ref h_told, .ref h_draft, .int h_keptCount, .int h_imageCount, .int h_trouble])), (h_now, .inr (6, [.ref h_now_ground, .ref h_now_at, .ref h_now_fell, .ref h_now_went, .int h_now_walkers])), (h_now_at, .inl (cy 1, 4, .inl h_now_atf)), (h_told, .inr (7, [.ref h_told_ground, .int h_told_errs, .int h_told_slips, .int h_told_rows, .int h_told_unsureCount, .ref h_told_unsure, .int h_told_walkers, .ref h_told_names, .ref h_told_kinds, .ref h_told_starts, .ref h_told_goals, .int h_told_walks, .ref h_told_walkStarts, .ref h_told_walkSteps, .ref h_told_walkFell])), (h_told_kinds, .inl (cy 1, 4, .inl h_told_kindsf)), (h_told_goals, .inl (cy 1, 4, .inl h_told_goalsf)), (h1, .inr (9, [.ref y_targets, .ref y_weights, .ref y_left, .ref y_steps, .ref y_places, .ref y_arrivals, .int y_length1_10, .int y_fallCount1_11])), (y_targets, .inl (cy 1, 80, .inl y_targetsf1_4)), (y_weights, .inl (cy 1, 80, .inl y_weightsf1_5)), (y_left, .inl (cy 1, 20, .inl y_leftf1_6)), (y_steps, .inl (cy 1, 20, .inl y_stepsf1_7)), (y_places, .inl (cy 1, 21, .inl y_placesf1_8)), (y_arrivals, .inl (cy 1, 21, .inl y_arrivalsf1_9)), (h_now_ground, .inr (4, [.int h_now_ground_wide, .int h_now_ground_deep, .int h_now_ground_count, .ref h_now_ground_sorts])), (h_now_ground_sorts, .inl (cy 1, 20, .inl h_now_ground_sortsf))]) hP hD rfl
  have hP := hPD.1
  have hD := hPD.2
  exact eI hQ X hr hlocks hP hD hS (y_targetsf1_4, y_weightsf1_5, y_leftf1_6, y_stepsf1_7, y_placesf1_8, y_arrivalsf1_9, y_length1_10, y_fallCount1_11) [0, 1, 13, 14, 2, 3, 4, 5, 6, 7, 8, 9, 10, 11, 12] (by decide +kernel) rfl (nar_b (by omega) (by omega)) (show (0 ≤ r_12.toInt ∧ r_12.toInt ≤ 1) ∧ (rb y_targetsf1_4 80 (-1) 19) ∧ (rb y_placesf1_8 21 0 19) ∧ (rbk y_arrivalsf1_9 21 (-2) 4) ∧ (0 ≤ y_length1_10.toInt ∧ y_length1_10.toInt ≤ 20) from ⟨k_13_0, k_13_1, k_13_2, k_13_3, k_13_4⟩) (Nat.le_of_ble_eq_true rfl) (Nat.le_of_ble_eq_true rfl) dX11_findQuick_39
set_option maxHeartbeats 4000000 in
set_option maxRecDepth 100000 in
theorem sX11_findDry (l : Launch) (dC : Nat → ClassId) (dI : Nat → Nat → Nat) (cy : Nat → ClassId) (h0 : Nat) (h_tape : Nat) (h_now : Nat) (h_trial : Nat) (h_kept : Nat) (h_images : Nat) (h_way : Nat) (h_otherWay : Nat) (h_flood : Nat) (h_cutSearch : Nat) (h_drySearch : Nat) (h_guess : Nat) (h_fraction : Nat) (h_told : Nat) (h_draft : Nat) (h_keptCount : Int32) (h_imageCount : Int32) (h_trouble : Int32) (h_now_ground : Nat) (h_now_at : Nat) (h_now_fell : Nat) (h_now_went : Nat) (h_now_walkers : Int32) (h_now_ground_wide : Int32) (h_now_ground_deep : Int32) (h_now_ground_count : Int32) (h_now_ground_sorts : Nat) (h_now_ground_sortsf : Nat → Int32) (h_now_atf : Nat → Int32) (h_way_targets : Nat) (h_way_weights : Nat) (h_way_left : Nat) (h_way_steps : Nat) (h_way_places : Nat) (h_way_arrivals : Nat) (h_way_length : Int32) (h_way_fallCount : Int32) (h_way_targetsf : Nat → Int32) (h_way_weightsf : Nat → Int32) (h_way_leftf : Nat → Int32) (h_way_stepsf : Nat → Int32) (h_way_placesf : Nat → Int32) (h_way_arrivalsf : Nat → Int32) (h_told_ground : Nat) (h_told_errs : Int32) (h_told_slips : Int32) (h_told_rows : Int32) (h_told_unsureCount : Int32) (h_told_unsure : Nat) (h_told_walkers : Int32) (h_told_names : Nat) (h_told_kinds : Nat) (h_told_starts : Nat) (h_told_goals : Nat) (h_told_walks : Int32) (h_told_walkStarts : Nat) (h_told_walkSteps : Nat) (h_told_walkFell : Nat) (h_told_kindsf : Nat → Int32) (h_told_goalsf : Nat → Int32) (p1 : Int32) (hh_keptCount : 0 ≤ h_keptCount.toInt ∧ h_keptCount.toInt ≤ 16) (hh_imageCount : 0 ≤ h_imageCount.toInt ∧ h_imageCount.toInt ≤ 3) (hh_now_walkers : 0 ≤ h_now_walkers.toInt ∧ h_now_walkers.toInt ≤ 4) (hh_now_ground_wide : 0 ≤ h_now_ground_wide.toInt ∧ h_now_ground_wide.toInt ≤ 5) (hh_now_ground_deep : 0 ≤ h_now_ground_deep.toInt ∧ h_now_ground_deep.toInt ≤ 4) (hh_now_ground_count : 0 ≤ h_now_ground_count.toInt ∧ h_now_ground_count.toInt ≤ 20) (hh_now_atf : rb h_now_atf 4 0 19) (hh_way_length : 0 ≤ h_way_length.toInt ∧ h_way_length.toInt ≤ 20) (hh_way_targetsf : rb h_way_targetsf 80 (-1) 19) (hh_way_placesf : rb h_way_placesf 21 0 19) (hh_way_arrivalsf : rbk h_way_arrivalsf 21 (-2) 4) (hh_told_rows : 0 ≤ h_told_rows.toInt ∧ h_told_rows.toInt ≤ 4) (hh_told_unsureCount : 0 ≤ h_told_unsureCount.toInt ∧ h_told_unsureCount.toInt ≤ 5) (hh_told_walkers : 0 ≤ h_told_walkers.toInt ∧ h_told_walkers.toInt ≤ 4) (hh_told_walks : 0 ≤ h_told_walks.toInt ∧ h_told_walks.toInt ≤ 6) (hp1 : 0 ≤ p1.toInt ∧ p1.toInt ≤ 3) : ctI l dC dI cy hp yX11_findDry cX11_findDry 2 .boolean ({ frames := 4, cells := 0, slots := 0, locals := 100 } : Room) [.ref h0, .int p1] [(h0, .inr (10, [.ref h_tape, .ref h_now, .ref h_trial, .ref h_kept, .ref h_images, .ref h_way, .ref h_otherWay, .ref h_flood, .ref h_cutSearch, .ref h_drySearch, .ref h_guess, .ref h_fraction, .ref h_told, .ref h_draft, .int h_keptCount, .int h_imageCount, .int h_trouble])), (h_now, .inr (6, [.ref h_now_ground, .ref h_now_at, .ref h_now_fell, .ref h_now_went, .int h_now_walkers])), (h_now_ground, .inr (4, [.int h_now_ground_wide, .int h_now_ground_deep, .int h_now_ground_count, .ref h_now_ground_sorts])), (h_now_ground_sorts, .inl (cy 1, 20, .inl h_now_ground_sortsf)), (h_now_at, .inl (cy 1, 4, .inl h_now_atf)), (h_way, .inr (9, [.ref h_way_targets, .ref h_way_weights, .ref h_way_left, .ref h_way_steps, .ref h_way_places, .ref h_way_arrivals, .int h_way_length, .int h_way_fallCount])), (h_way_targets, .inl (cy 1, 80, .inl h_way_targetsf)), (h_way_weights, .inl (cy 1, 80, .inl h_way_weightsf)), (h_way_left, .inl (cy 1, 20, .inl h_way_leftf)), (h_way_steps, .inl (cy 1, 20, .inl h_way_stepsf)), (h_way_places, .inl (cy 1, 21, .inl h_way_placesf)), (h_way_arrivals, .inl (cy 1, 21, .inl h_way_arrivalsf)), (h_told, .inr (7, [.ref h_told_ground, .int h_told_errs, .int h_told_slips, .int h_told_rows, .int h_told_unsureCount, .ref h_told_unsure, .int h_told_walkers, .ref h_told_names, .ref h_told_kinds, .ref h_told_starts, .ref h_told_goals, .int h_told_walks, .ref h_told_walkStarts, .ref h_told_walkSteps, .ref h_told_walkFell])), (h_told_kinds, .inl (cy 1, 4, .inl h_told_kindsf)), (h_told_goals, .inl (cy 1, 4, .inl h_told_goalsf))] (S := (Nat → Int32) × (Nat → Int32) × (Nat → Int32) × (Nat → Int32) × (Nat → Int32) × (Nat → Int32) × Int32 × Int32) (fun r u => (0 ≤ r.toInt ∧ r.toInt ≤ 1) ∧ (rb u.1 80 (-1) 19) ∧ (rb u.2.2.2.2.1 21 0 19) ∧ (rbk u.2.2.2.2.2.1 21 (-2) 4) ∧ (0 ≤ u.2.2.2.2.2.2.1.toInt ∧ u.2.2.2.2.2.2.1.toInt ≤ 20)) (fun u => [(h0, .inr (10, [.ref h_tape, .ref h_now, .ref h_trial, .ref h_kept, .ref h_images, .ref h_way, .ref h_otherWay, .ref h_flood, .ref h_cutSearch, .ref h_drySearch, .ref h_guess, .ref h_fraction, .ref h_told, .ref h_draft, .int h_keptCount, .int h_imageCount, .int h_trouble])), (h_now, .inr (6, [.ref h_now_ground, .ref h_now_at, .ref h_now_fell, .ref h_now_went, .int h_now_walkers])), (h_now_ground, .inr (4, [.int h_now_ground_wide, .int h_now_ground_deep, .int h_now_ground_count, .ref h_now_ground_sorts])), (h_now_ground_sorts, .inl (cy 1, 20, .inl h_now_ground_sortsf)), (h_now_at, .inl (cy 1, 4, .inl h_now_atf)), (h_way, .inr (9, [.ref h_way_targets, .ref h_way_weights, .ref h_way_left, .ref h_way_steps, .ref h_way_places, .ref h_way_arrivals, .int u.2.2.2.2.2.2.1, .int u.2.2.2.2.2.2.2])), (h_way_targets, .inl (cy 1, 80, .inl u.1)), (h_way_weights, .inl (cy 1, 80, .inl u.2.1)), (h_way_left, .inl (cy 1, 20, .inl u.2.2.1)), (h_way_steps, .inl (cy 1, 20, .inl u.2.2.2.1)), (h_way_places, .inl (cy 1, 21, .inl u.2.2.2.2.1)), (h_way_arrivals, .inl (cy 1, 21, .inl u.2.2.2.2.2.1)), (h_told, .inr (7, [.ref h_told_ground, .int h_told_errs, .int h_told_slips, .int h_told_rows, .int h_told_unsureCount, .ref h_told_unsure, .int h_told_walkers, .ref h_told_names, .ref h_told_kinds, .ref h_told_starts, .ref h_told_goals, .int h_told_walks, .ref h_told_walkStarts, .ref h_told_walkSteps, .ref h_told_walkFell])), (h_told_kinds, .inl (cy 1, 4, .inl h_told_kindsf)), (h_told_goals, .inl (cy 1, 4, .inl h_told_goalsf))]) := by
  refine ctI.of (by decide +kernel) (Nat.le_of_ble_eq_true rfl) ?_
  intro p e s m args below meth c A ls Q hQ X hr hlocks hin hA hP hD hS hl
  have hx := X.1
  have hb := X.2.1
  have hK := X.2.2.2.2.2.1
  have hl : lv_has ls 2 [(0, .ref h0), (1, .int p1)] := hl
  refine lv_aload_n hx hb dX11_findDry_0 rfl (lv_at hl 0 rfl) ?_
  refine r_get X kcX11 (ci := 10) rfl hP 0 rfl 5 (by decide) fX11_36 rfl dX11_findDry_1 ?_
  refine lv_aload_n hx hb dX11_findDry_4 rfl (lv_at hl 0 rfl) ?_
  refine r_get X kcX11 (ci := 10) rfl hP 0 rfl 1 (by decide) fX11_19 rfl dX11_findDry_5 ?_
  refine r_get X kcX6 (ci := 6) rfl hP 1 rfl 0 (by decide) fX11_121 rfl dX11_findDry_8 ?_
  refine lv_aload_n hx hb dX11_findDry_11 rfl (lv_at hl 0 rfl) ?_
  refine r_get X kcX11 (ci := 10) rfl hP 0 rfl 12 (by decide) fX11_81 rfl dX11_findDry_12 ?_
  refine r_get X kcX7 (ci := 7) rfl hP 12 rfl 8 (by decide) fX11_162 rfl dX11_findDry_15 ?_
  refine lv_iload_n hx hb dX11_findDry_18 rfl (lv_at hl 1 rfl) ?_
  refine va_iald (D := (dC, dI)) (cl := vwCl) hx hb hK hP 13 1 rfl rfl (i := p1) (vin (by omega) (by omega)) dX11_findDry_19 ?_
  refine lv_topi (fun x_1 ex_1 => ?_)
  refine lv_aload_n hx hb dX11_findDry_20 rfl (lv_at hl 0 rfl) ?_
  refine r_get X kcX11 (ci := 10) rfl hP 0 rfl 1 (by decide) fX11_19 rfl dX11_findDry_21 ?_
  refine r_get X kcX6 (ci := 6) rfl hP 1 rfl 1 (by decide) fX11_166 rfl dX11_findDry_24 ?_
  refine lv_iload_n hx hb dX11_findDry_27 rfl (lv_at hl 1 rfl) ?_
  refine va_iald (D := (dC, dI)) (cl := vwCl) hx hb hK hP 4 1 rfl rfl (i := p1) (vin (by omega) (by omega)) dX11_findDry_28 ?_
  refine lv_topi (fun x_2 ex_2 => ?_)
  have bx_2 : 0 ≤ x_2.toInt ∧ x_2.toInt ≤ 19 := rb_at hh_now_atf ex_2 (by omega) (by omega)
  refine lv_aload_n hx hb dX11_findDry_29 rfl (lv_at hl 0 rfl) ?_
  refine r_get X kcX11 (ci := 10) rfl hP 0 rfl 12 (by decide) fX11_81 rfl dX11_findDry_30 ?_
  refine r_get X kcX7 (ci := 7) rfl hP 12 rfl 10 (by decide) fX11_169 rfl dX11_findDry_33 ?_
  refine lv_iload_n hx hb dX11_findDry_36 rfl (lv_at hl 1 rfl) ?_
  refine va_iald (D := (dC, dI)) (cl := vwCl) hx hb hK hP 14 1 rfl rfl (i := p1) (vin (by omega) (by omega)) dX11_findDry_37 ?_
  refine lv_topi (fun x_3 ex_3 => ?_)
  refine lv_iconst (v := 1) hx hb dX11_findDry_38 (by decide) ?_
  refine sl_Ic (rV_I (As := [.ref h_now_ground, .int x_1, .int x_2, .int x_3, .int 1]) (rest := []) X hp_st (fun _ _ _ h => h) (sX10_find l dC dI cy h_way h_way_targets h_way_weights h_way_left h_way_steps h_way_places h_way_arrivals h_way_length h_way_fallCount h_way_targetsf h_way_weightsf h_way_leftf h_way_stepsf h_way_placesf h_way_arrivalsf h_now_ground h_now_ground_wide h_now_ground_deep h_now_ground_count h_now_ground_sorts h_now_ground_sortsf x_1 x_2 x_3 1 hh_way_length hh_way_targetsf hh_way_placesf hh_way_arrivalsf hh_now_ground_wide hh_now_ground_deep hh_now_ground_count (by first | decide | omega)) kX10_find vX10_find mX11_374 hP hD hS hA [5, 6, 7, 8, 9, 10, 11, 2, 3] (by decide +kernel) rfl 0 (ci := 9) rfl rfl rfl hl rfl rfl (Nat.le_of_ble_eq_true rfl) dX11_findDry_39 ⟨(Nat.le_of_ble_eq_true rfl), (Nat.le_of_ble_eq_true rfl)⟩ ⟨(Nat.le_of_ble_eq_true rfl), (Nat.le_of_ble_eq_true rfl)⟩) hP hD hS hA [5, 6, 7, 8, 9, 10, 11, 2, 3] [true, true, false, false, true, false, false, false, false, false, false, false, true, true, true] rfl rfl rfl (fun r_12 u_14 H locs k_13 hP hD hS => ?_)
  obtain ⟨y_targetsf1_4, y_weightsf1_5, y_leftf1_6, y_stepsf1_7, y_placesf1_8, y_arrivalsf1_9, y_length1_10, y_fallCount1_11⟩ := u_14
  have k_13 : (0 ≤ r_12.toInt ∧ r_12.toInt ≤ 1) ∧ (rb y_targetsf1_4 80 (-1) 19) ∧ (rb y_placesf1_8 21 0 19) ∧ (rbk y_arrivalsf1_9 21 (-2) 4) ∧ (0 ≤ y_length1_10.toInt ∧ y_length1_10.toInt ≤ 20) := k_13
  obtain ⟨k_13_0, k_13_1, k_13_2, k_13_3, k_13_4⟩ := k_13
  have hPD := vPD (ws' := [(h0, .inr (10, [.ref h_tape, .ref h_now, .ref h_trial, .ref h_kept, .ref h_images, .ref h_way, .ref h_otherWay, .ref h_flood, .ref h_cutSearch, .ref h_drySearch, .ref h_guess, .ref h_fraction, .ref h_told, .ref h_draft, .int h_keptCount, .int h_imageCount, .int h_trouble])), (h_now, .inr (6, [.ref h_now_ground, .ref h_now_at, .ref h_now_fell, .ref h_now_went, .int h_now_walkers])), (h_now_at, .inl (cy 1, 4, .inl h_now_atf)), (h_told, .inr (7, [.ref h_told_ground, .int h_told_errs, .int h_told_slips, .int h_told_rows, .int h_told_unsureCount, .ref h_told_unsure, .int h_told_walkers, .ref h_told_names, .ref h_told_kinds, .ref h_told_starts, .ref h_told_goals, .int h_told_walks, .ref h_told_walkStarts, .ref h_told_walkSteps, .ref h_told_walkFell])), (h_told_kinds, .inl (cy 1, 4, .inl h_told_kindsf)), (h_told_goals, .inl (cy 1, 4, .inl h_told_goalsf)), (h_way, .inr (9, [.ref h_way_targets, .ref h_way_weights, .ref h_way_left, .ref h_way_steps, .ref h_way_places, .ref h_way_arrivals, .int y_length1_10, .int y_fallCount1_11])), (h_way_targets, .inl (cy 1, 80, .inl y_targetsf1_4)), (h_way_weights, .inl (cy 1, 80, .inl y_weightsf1_5)), (h_way_left, .inl (cy 1, 20, .inl y_leftf1_6)), (h_way_steps, .inl (cy 1, 20, .inl y_stepsf1_7)), (h_way_places, .inl (cy 1, 21, .inl y_placesf1_8)), (h_way_arrivals, .inl (cy 1, 21, .inl y_arrivalsf1_9)), (h_now_ground, .inr (4, [.int h_now_ground_wide, .int h_now_ground_deep, .int h_now_ground_count, .ref h_now_ground_sorts])), (h_now_ground_sorts, .inl (cy 1, 20, .inl h_now_ground_sortsf))]) hP hD rfl
  have hP := hPD.1
  have hD := hPD.2
  exact eI hQ X hr hlocks hP hD hS (y_targetsf1_4, y_weightsf1_5, y_leftf1_6, y_stepsf1_7, y_placesf1_8, y_arrivalsf1_9, y_length1_10, y_fallCount1_11) [0, 1, 13, 14, 2, 6, 7, 8, 9, 10, 11, 12, 3, 4, 5] (by decide +kernel) rfl (nar_b (by omega) (by omega)) (show (0 ≤ r_12.toInt ∧ r_12.toInt ≤ 1) ∧ (rb y_targetsf1_4 80 (-1) 19) ∧ (rb y_placesf1_8 21 0 19) ∧ (rbk y_arrivalsf1_9 21 (-2) 4) ∧ (0 ≤ y_length1_10.toInt ∧ y_length1_10.toInt ≤ 20) from ⟨k_13_0, k_13_1, k_13_2, k_13_3, k_13_4⟩) (Nat.le_of_ble_eq_true rfl) (Nat.le_of_ble_eq_true rfl) dX11_findDry_42
set_option maxHeartbeats 4000000 in
set_option maxRecDepth 100000 in
theorem sX11_soonest (l : Launch) (dC : Nat → ClassId) (dI : Nat → Nat → Nat) (cy : Nat → ClassId) (h0 : Nat) (h_tape : Nat) (h_now : Nat) (h_trial : Nat) (h_kept : Nat) (h_images : Nat) (h_way : Nat) (h_otherWay : Nat) (h_flood : Nat) (h_cutSearch : Nat) (h_drySearch : Nat) (h_guess : Nat) (h_fraction : Nat) (h_told : Nat) (h_draft : Nat) (h_keptCount : Int32) (h_imageCount : Int32) (h_trouble : Int32) (h_now_ground : Nat) (h_now_at : Nat) (h_now_fell : Nat) (h_now_went : Nat) (h_now_walkers : Int32) (h_now_ground_wide : Int32) (h_now_ground_deep : Int32) (h_now_ground_count : Int32) (h_now_ground_sorts : Nat) (h_now_ground_sortsf : Nat → Int32) (h_now_atf : Nat → Int32) (h_way_targets : Nat) (h_way_weights : Nat) (h_way_left : Nat) (h_way_steps : Nat) (h_way_places : Nat) (h_way_arrivals : Nat) (h_way_length : Int32) (h_way_fallCount : Int32) (h_way_targetsf : Nat → Int32) (h_way_weightsf : Nat → Int32) (h_way_leftf : Nat → Int32) (h_way_stepsf : Nat → Int32) (h_way_placesf : Nat → Int32) (h_way_arrivalsf : Nat → Int32) (h_told_ground : Nat) (h_told_errs : Int32) (h_told_slips : Int32) (h_told_rows : Int32) (h_told_unsureCount : Int32) (h_told_unsure : Nat) (h_told_walkers : Int32) (h_told_names : Nat) (h_told_kinds : Nat) (h_told_starts : Nat) (h_told_goals : Nat) (h_told_walks : Int32) (h_told_walkStarts : Nat) (h_told_walkSteps : Nat) (h_told_walkFell : Nat) (h_told_kindsf : Nat → Int32) (p1 : Int32) (p2 : Int32) (hh_keptCount : 0 ≤ h_keptCount.toInt ∧ h_keptCount.toInt ≤ 16) (hh_imageCount : 0 ≤ h_imageCount.toInt ∧ h_imageCount.toInt ≤ 3) (hh_now_walkers : 0 ≤ h_now_walkers.toInt ∧ h_now_walkers.toInt ≤ 4) (hh_now_ground_wide : 0 ≤ h_now_ground_wide.toInt ∧ h_now_ground_wide.toInt ≤ 5) (hh_now_ground_deep : 0 ≤ h_now_ground_deep.toInt ∧ h_now_ground_deep.toInt ≤ 4) (hh_now_ground_count : 0 ≤ h_now_ground_count.toInt ∧ h_now_ground_count.toInt ≤ 20) (hh_now_atf : rb h_now_atf 4 0 19) (hh_way_length : 0 ≤ h_way_length.toInt ∧ h_way_length.toInt ≤ 20) (hh_way_targetsf : rb h_way_targetsf 80 (-1) 19) (hh_way_placesf : rb h_way_placesf 21 0 19) (hh_way_arrivalsf : rbk h_way_arrivalsf 21 (-2) 4) (hh_told_rows : 0 ≤ h_told_rows.toInt ∧ h_told_rows.toInt ≤ 4) (hh_told_unsureCount : 0 ≤ h_told_unsureCount.toInt ∧ h_told_unsureCount.toInt ≤ 5) (hh_told_walkers : 0 ≤ h_told_walkers.toInt ∧ h_told_walkers.toInt ≤ 4) (hh_told_walks : 0 ≤ h_told_walks.toInt ∧ h_told_walks.toInt ≤ 6) (hp1 : 0 ≤ p1.toInt ∧ p1.toInt ≤ 3) : ctI l dC dI cy hp yX11_soonest cX11_soonest 4 .int ({ frames := 4, cells := 0, slots := 0, locals := 100 } : Room) [.ref h0, .int p1, .int p2] [(h0, .inr (10, [.ref h_tape, .ref h_now, .ref h_trial, .ref h_kept, .ref h_images, .ref h_way, .ref h_otherWay, .ref h_flood, .ref h_cutSearch, .ref h_drySearch, .ref h_guess, .ref h_fraction, .ref h_told, .ref h_draft, .int h_keptCount, .int h_imageCount, .int h_trouble])), (h_now, .inr (6, [.ref h_now_ground, .ref h_now_at, .ref h_now_fell, .ref h_now_went, .int h_now_walkers])), (h_now_ground, .inr (4, [.int h_now_ground_wide, .int h_now_ground_deep, .int h_now_ground_count, .ref h_now_ground_sorts])), (h_now_ground_sorts, .inl (cy 1, 20, .inl h_now_ground_sortsf)), (h_now_at, .inl (cy 1, 4, .inl h_now_atf)), (h_way, .inr (9, [.ref h_way_targets, .ref h_way_weights, .ref h_way_left, .ref h_way_steps, .ref h_way_places, .ref h_way_arrivals, .int h_way_length, .int h_way_fallCount])), (h_way_targets, .inl (cy 1, 80, .inl h_way_targetsf)), (h_way_weights, .inl (cy 1, 80, .inl h_way_weightsf)), (h_way_left, .inl (cy 1, 20, .inl h_way_leftf)), (h_way_steps, .inl (cy 1, 20, .inl h_way_stepsf)), (h_way_places, .inl (cy 1, 21, .inl h_way_placesf)), (h_way_arrivals, .inl (cy 1, 21, .inl h_way_arrivalsf)), (h_told, .inr (7, [.ref h_told_ground, .int h_told_errs, .int h_told_slips, .int h_told_rows, .int h_told_unsureCount, .ref h_told_unsure, .int h_told_walkers, .ref h_told_names, .ref h_told_kinds, .ref h_told_starts, .ref h_told_goals, .int h_told_walks, .ref h_told_walkStarts, .ref h_told_walkSteps, .ref h_told_walkFell])), (h_told_kinds, .inl (cy 1, 4, .inl h_told_kindsf))] (S := (Nat → Int32) × (Nat → Int32) × (Nat → Int32) × (Nat → Int32) × (Nat → Int32) × (Nat → Int32) × Int32 × Int32) (fun r u => (rb u.1 80 (-1) 19) ∧ (rb u.2.2.2.2.1 21 0 19) ∧ (rbk u.2.2.2.2.2.1 21 (-2) 4) ∧ (0 ≤ u.2.2.2.2.2.2.1.toInt ∧ u.2.2.2.2.2.2.1.toInt ≤ 20)) (fun u => [(h0, .inr (10, [.ref h_tape, .ref h_now, .ref h_trial, .ref h_kept, .ref h_images, .ref h_way, .ref h_otherWay, .ref h_flood, .ref h_cutSearch, .ref h_drySearch, .ref h_guess, .ref h_fraction, .ref h_told, .ref h_draft, .int h_keptCount, .int h_imageCount, .int h_trouble])), (h_now, .inr (6, [.ref h_now_ground, .ref h_now_at, .ref h_now_fell, .ref h_now_went, .int h_now_walkers])), (h_now_ground, .inr (4, [.int h_now_ground_wide, .int h_now_ground_deep, .int h_now_ground_count, .ref h_now_ground_sorts])), (h_now_ground_sorts, .inl (cy 1, 20, .inl h_now_ground_sortsf)), (h_now_at, .inl (cy 1, 4, .inl h_now_atf)), (h_way, .inr (9, [.ref h_way_targets, .ref h_way_weights, .ref h_way_left, .ref h_way_steps, .ref h_way_places, .ref h_way_arrivals, .int u.2.2.2.2.2.2.1, .int u.2.2.2.2.2.2.2])), (h_way_targets, .inl (cy 1, 80, .inl u.1)), (h_way_weights, .inl (cy 1, 80, .inl u.2.1)), (h_way_left, .inl (cy 1, 20, .inl u.2.2.1)), (h_way_steps, .inl (cy 1, 20, .inl u.2.2.2.1)), (h_way_places, .inl (cy 1, 21, .inl u.2.2.2.2.1)), (h_way_arrivals, .inl (cy 1, 21, .inl u.2.2.2.2.2.1)), (h_told, .inr (7, [.ref h_told_ground, .int h_told_errs, .int h_told_slips, .int h_told_rows, .int h_told_unsureCount, .ref h_told_unsure, .int h_told_walkers, .ref h_told_names, .ref h_told_kinds, .ref h_told_starts, .ref h_told_goals, .int h_told_walks, .ref h_told_walkStarts, .ref h_told_walkSteps, .ref h_told_walkFell])), (h_told_kinds, .inl (cy 1, 4, .inl h_told_kindsf))]) := by
  refine ctI.of (by decide +kernel) (Nat.le_of_ble_eq_true rfl) ?_
  intro p e s m args below meth c A ls Q hQ X hr hlocks hin hA hP hD hS hl
  have hx := X.1
  have hb := X.2.1
  have hK := X.2.2.2.2.2.1
  have hl : lv_has ls 4 [(0, .ref h0), (1, .int p1), (2, .int p2)] := hl
  have dy_1 := ti_bd p2
  refine lv_aload_n hx hb dX11_soonest_0 rfl (lv_at hl 0 rfl) ?_
  refine r_get X kcX11 (ci := 10) rfl hP 0 rfl 5 (by decide) fX11_36 rfl dX11_soonest_1 ?_
  refine lv_aload_n hx hb dX11_soonest_4 rfl (lv_at hl 0 rfl) ?_
  refine r_get X kcX11 (ci := 10) rfl hP 0 rfl 1 (by decide) fX11_19 rfl dX11_soonest_5 ?_
  refine r_get X kcX6 (ci := 6) rfl hP 1 rfl 0 (by decide) fX11_121 rfl dX11_soonest_8 ?_
  refine lv_aload_n hx hb dX11_soonest_11 rfl (lv_at hl 0 rfl) ?_
  refine r_get X kcX11 (ci := 10) rfl hP 0 rfl 12 (by decide) fX11_81 rfl dX11_soonest_12 ?_
  refine r_get X kcX7 (ci := 7) rfl hP 12 rfl 8 (by decide) fX11_162 rfl dX11_soonest_15 ?_
  refine lv_iload_n hx hb dX11_soonest_18 rfl (lv_at hl 1 rfl) ?_
  refine va_iald (D := (dC, dI)) (cl := vwCl) hx hb hK hP 13 1 rfl rfl (i := p1) (vin (by omega) (by omega)) dX11_soonest_19 ?_
  refine lv_topi (fun x_2 ex_2 => ?_)
  refine lv_aload_n hx hb dX11_soonest_20 rfl (lv_at hl 0 rfl) ?_
  refine r_get X kcX11 (ci := 10) rfl hP 0 rfl 1 (by decide) fX11_19 rfl dX11_soonest_21 ?_
  refine r_get X kcX6 (ci := 6) rfl hP 1 rfl 1 (by decide) fX11_166 rfl dX11_soonest_24 ?_
  refine lv_iload_n hx hb dX11_soonest_27 rfl (lv_at hl 1 rfl) ?_
  refine va_iald (D := (dC, dI)) (cl := vwCl) hx hb hK hP 4 1 rfl rfl (i := p1) (vin (by omega) (by omega)) dX11_soonest_28 ?_
  refine lv_topi (fun x_3 ex_3 => ?_)
  have bx_3 : 0 ≤ x_3.toInt ∧ x_3.toInt ≤ 19 := rb_at hh_now_atf ex_3 (by omega) (by omega)
  refine lv_iload_n hx hb dX11_soonest_29 rfl (lv_at hl 2 rfl) ?_
  refine lv_iconst (v := 0) hx hb dX11_soonest_30 (by decide) ?_
  refine sl_Ic (rV_I (As := [.ref h_now_ground, .int x_2, .int x_3, .int p2, .int 0]) (rest := []) X hp_st (fun _ _ _ h => h) (sX10_find l dC dI cy h_way h_way_targets h_way_weights h_way_left h_way_steps h_way_places h_way_arrivals h_way_length h_way_fallCount h_way_targetsf h_way_weightsf h_way_leftf h_way_stepsf h_way_placesf h_way_arrivalsf h_now_ground h_now_ground_wide h_now_ground_deep h_now_ground_count h_now_ground_sorts h_now_ground_sortsf x_2 x_3 p2 0 hh_way_length hh_way_targetsf hh_way_placesf hh_way_arrivalsf hh_now_ground_wide hh_now_ground_deep hh_now_ground_count (by first | decide | omega)) kX10_find vX10_find mX11_374 hP hD hS hA [5, 6, 7, 8, 9, 10, 11, 2, 3] (by decide +kernel) rfl 0 (ci := 9) rfl rfl rfl hl rfl rfl (Nat.le_of_ble_eq_true rfl) dX11_soonest_31 ⟨(Nat.le_of_ble_eq_true rfl), (Nat.le_of_ble_eq_true rfl)⟩ ⟨(Nat.le_of_ble_eq_true rfl), (Nat.le_of_ble_eq_true rfl)⟩) hP hD hS hA [5, 6, 7, 8, 9, 10, 11, 2, 3] [true, true, false, false, true, false, false, false, false, false, false, false, true, true] rfl rfl rfl (fun r_12 u_14 H locs k_13 hP hD hS => ?_)
  obtain ⟨y_targetsf1_4, y_weightsf1_5, y_leftf1_6, y_stepsf1_7, y_placesf1_8, y_arrivalsf1_9, y_length1_10, y_fallCount1_11⟩ := u_14
  have k_13 : (0 ≤ r_12.toInt ∧ r_12.toInt ≤ 1) ∧ (rb y_targetsf1_4 80 (-1) 19) ∧ (rb y_placesf1_8 21 0 19) ∧ (rbk y_arrivalsf1_9 21 (-2) 4) ∧ (0 ≤ y_length1_10.toInt ∧ y_length1_10.toInt ≤ 20) := k_13
  obtain ⟨k_13_0, k_13_1, k_13_2, k_13_3, k_13_4⟩ := k_13
  have hPD := vPD (ws' := [(h0, .inr (10, [.ref h_tape, .ref h_now, .ref h_trial, .ref h_kept, .ref h_images, .ref h_way, .ref h_otherWay, .ref h_flood, .ref h_cutSearch, .ref h_drySearch, .ref h_guess, .ref h_fraction, .ref h_told, .ref h_draft, .int h_keptCount, .int h_imageCount, .int h_trouble])), (h_now, .inr (6, [.ref h_now_ground, .ref h_now_at, .ref h_now_fell, .ref h_now_went, .int h_now_walkers])), (h_now_at, .inl (cy 1, 4, .inl h_now_atf)), (h_told, .inr (7, [.ref h_told_ground, .int h_told_errs, .int h_told_slips, .int h_told_rows, .int h_told_unsureCount, .ref h_told_unsure, .int h_told_walkers, .ref h_told_names, .ref h_told_kinds, .ref h_told_starts, .ref h_told_goals, .int h_told_walks, .ref h_told_walkStarts, .ref h_told_walkSteps, .ref h_told_walkFell])), (h_told_kinds, .inl (cy 1, 4, .inl h_told_kindsf)), (h_way, .inr (9, [.ref h_way_targets, .ref h_way_weights, .ref h_way_left, .ref h_way_steps, .ref h_way_places, .ref h_way_arrivals, .int y_length1_10, .int y_fallCount1_11])), (h_way_targets, .inl (cy 1, 80, .inl y_targetsf1_4)), (h_way_weights, .inl (cy 1, 80, .inl y_weightsf1_5)), (h_way_left, .inl (cy 1, 20, .inl y_leftf1_6)), (h_way_steps, .inl (cy 1, 20, .inl y_stepsf1_7)), (h_way_places, .inl (cy 1, 21, .inl y_placesf1_8)), (h_way_arrivals, .inl (cy 1, 21, .inl y_arrivalsf1_9)), (h_now_ground, .inr (4, [.int h_now_ground_wide, .int h_now_ground_deep, .int h_now_ground_count, .ref h_now_ground_sorts])), (h_now_ground_sorts, .inl (cy 1, 20, .inl h_now_ground_sortsf))]) hP hD rfl
  have hP := hPD.1
  have hD := hPD.2
  refine lv_istore_n (lv' := [(3, .int r_12), (0, .ref h0), (1, .int p1), (2, .int p2)]) hx hb dX11_soonest_34 rfl hl (by decide) rfl (fun ls hl => ?_)
  refine lv_iload_n hx hb dX11_soonest_35 rfl (lv_at hl 0 rfl) ?_
  refine lv_if_eq (tgt := 49) hx hb dX11_soonest_36 (by decide) (fun h_15 => ?_) (fun h_15 => ?_)
  · have h_15 : r_12.toInt = 0 := c_eq h_15
    refine lv_bipush (v := -2) hx hb dX11_soonest_49 (by decide) ?_
    exact eI hQ X hr hlocks hP hD hS (y_targetsf1_4, y_weightsf1_5, y_leftf1_6, y_stepsf1_7, y_placesf1_8, y_arrivalsf1_9, y_length1_10, y_fallCount1_11) [0, 1, 12, 13, 2, 5, 6, 7, 8, 9, 10, 11, 3, 4] (by decide +kernel) rfl rfl (show (rb y_targetsf1_4 80 (-1) 19) ∧ (rb y_placesf1_8 21 0 19) ∧ (rbk y_arrivalsf1_9 21 (-2) 4) ∧ (0 ≤ y_length1_10.toInt ∧ y_length1_10.toInt ≤ 20) from ⟨k_13_1, k_13_2, k_13_3, k_13_4⟩) (Nat.le_of_ble_eq_true rfl) (Nat.le_of_ble_eq_true rfl) dX11_soonest_51
  · have h_15 : r_12.toInt ≠ 0 := c_ne h_15
    refine lv_aload_n hx hb dX11_soonest_39 rfl (lv_at hl 1 rfl) ?_
    refine r_get X kcX11 (ci := 10) rfl hP 0 rfl 5 (by decide) fX11_36 rfl dX11_soonest_40 ?_
    refine sl_Ic (rV_I (As := []) (rest := []) X hp_st (fun _ _ _ h => h) (sX10_minutesInAll l dC dI cy h_way h_way_targets h_way_weights h_way_left h_way_steps h_way_places h_way_arrivals y_length1_10 y_fallCount1_11 y_arrivalsf1_9 k_13_4 k_13_3) kX10_minutesInAll vX10_minutesInAll mX11_198 hP hD hS hA [5, 11] (by decide) rfl 0 (ci := 9) rfl rfl rfl hl rfl rfl (Nat.le_of_ble_eq_true rfl) dX11_soonest_43 ⟨(Nat.le_of_ble_eq_true rfl), (Nat.le_of_ble_eq_true rfl)⟩ ⟨(Nat.le_of_ble_eq_true rfl), (Nat.le_of_ble_eq_true rfl)⟩) hP hD hS hA [5, 11] [true, true, true, true, true, false, true, true, true, true, true, false, true, true] rfl rfl rfl (fun r_16 u_18 H locs k_17 hP hD hS => ?_)
    have k_17 : ((-40) ≤ r_16.toInt ∧ r_16.toInt ≤ 80) := k_17
    have hPD := vPD (ws' := [(h0, .inr (10, [.ref h_tape, .ref h_now, .ref h_trial, .ref h_kept, .ref h_images, .ref h_way, .ref h_otherWay, .ref h_flood, .ref h_cutSearch, .ref h_drySearch, .ref h_guess, .ref h_fraction, .ref h_told, .ref h_draft, .int h_keptCount, .int h_imageCount, .int h_trouble])), (h_now, .inr (6, [.ref h_now_ground, .ref h_now_at, .ref h_now_fell, .ref h_now_went, .int h_now_walkers])), (h_now_at, .inl (cy 1, 4, .inl h_now_atf)), (h_told, .inr (7, [.ref h_told_ground, .int h_told_errs, .int h_told_slips, .int h_told_rows, .int h_told_unsureCount, .ref h_told_unsure, .int h_told_walkers, .ref h_told_names, .ref h_told_kinds, .ref h_told_starts, .ref h_told_goals, .int h_told_walks, .ref h_told_walkStarts, .ref h_told_walkSteps, .ref h_told_walkFell])), (h_told_kinds, .inl (cy 1, 4, .inl h_told_kindsf)), (h_way_targets, .inl (cy 1, 80, .inl y_targetsf1_4)), (h_way_weights, .inl (cy 1, 80, .inl y_weightsf1_5)), (h_way_left, .inl (cy 1, 20, .inl y_leftf1_6)), (h_way_steps, .inl (cy 1, 20, .inl y_stepsf1_7)), (h_way_places, .inl (cy 1, 21, .inl y_placesf1_8)), (h_now_ground, .inr (4, [.int h_now_ground_wide, .int h_now_ground_deep, .int h_now_ground_count, .ref h_now_ground_sorts])), (h_now_ground_sorts, .inl (cy 1, 20, .inl h_now_ground_sortsf)), (h_way, .inr (9, [.ref h_way_targets, .ref h_way_weights, .ref h_way_left, .ref h_way_steps, .ref h_way_places, .ref h_way_arrivals, .int y_length1_10, .int y_fallCount1_11])), (h_way_arrivals, .inl (cy 1, 21, .inl y_arrivalsf1_9))]) hP hD rfl
    have hP := hPD.1
    have hD := hPD.2
    refine lv_goto (tgt := 51) hx hb dX11_soonest_46 (by decide) ?_
    exact eI hQ X hr hlocks hP hD hS (y_targetsf1_4, y_weightsf1_5, y_leftf1_6, y_stepsf1_7, y_placesf1_8, y_arrivalsf1_9, y_length1_10, y_fallCount1_11) [0, 1, 10, 11, 2, 12, 5, 6, 7, 8, 9, 13, 3, 4] (by decide +kernel) rfl rfl (show (rb y_targetsf1_4 80 (-1) 19) ∧ (rb y_placesf1_8 21 0 19) ∧ (rbk y_arrivalsf1_9 21 (-2) 4) ∧ (0 ≤ y_length1_10.toInt ∧ y_length1_10.toInt ≤ 20) from ⟨k_13_1, k_13_2, k_13_3, k_13_4⟩) (Nat.le_of_ble_eq_true rfl) (Nat.le_of_ble_eq_true rfl) dX11_soonest_51
set_option maxHeartbeats 4000000 in
set_option maxRecDepth 100000 in
theorem sX11_minutesOfAll (l : Launch) (dC : Nat → ClassId) (dI : Nat → Nat → Nat) (cy : Nat → ClassId) (h0 : Nat) (h_tape : Nat) (h_now : Nat) (h_trial : Nat) (h_kept : Nat) (h_images : Nat) (h_way : Nat) (h_otherWay : Nat) (h_flood : Nat) (h_cutSearch : Nat) (h_drySearch : Nat) (h_guess : Nat) (h_fraction : Nat) (h_told : Nat) (h_draft : Nat) (h_keptCount : Int32) (h_imageCount : Int32) (h_trouble : Int32) (h_way_targets : Nat) (h_way_weights : Nat) (h_way_left : Nat) (h_way_steps : Nat) (h_way_places : Nat) (h_way_arrivals : Nat) (h_way_length : Int32) (h_way_fallCount : Int32) (h_way_targetsf : Nat → Int32) (h_way_weightsf : Nat → Int32) (h_way_leftf : Nat → Int32) (h_way_stepsf : Nat → Int32) (h_way_placesf : Nat → Int32) (h_way_arrivalsf : Nat → Int32) (h_told_ground : Nat) (h_told_errs : Int32) (h_told_slips : Int32) (h_told_rows : Int32) (h_told_unsureCount : Int32) (h_told_unsure : Nat) (h_told_walkers : Int32) (h_told_names : Nat) (h_told_kinds : Nat) (h_told_starts : Nat) (h_told_goals : Nat) (h_told_walks : Int32) (h_told_walkStarts : Nat) (h_told_walkSteps : Nat) (h_told_walkFell : Nat) (h_told_kindsf : Nat → Int32) (h_told_goalsf : Nat → Int32) (h1 : Nat) (n_ground : Nat) (n_at : Nat) (n_fell : Nat) (n_went : Nat) (n_walkers : Int32) (n_ground_wide : Int32) (n_ground_deep : Int32) (n_ground_count : Int32) (n_ground_sorts : Nat) (n_ground_sortsf : Nat → Int32) (n_atf : Nat → Int32) (hh_keptCount : 0 ≤ h_keptCount.toInt ∧ h_keptCount.toInt ≤ 16) (hh_imageCount : 0 ≤ h_imageCount.toInt ∧ h_imageCount.toInt ≤ 3) (hh_way_length : 0 ≤ h_way_length.toInt ∧ h_way_length.toInt ≤ 20) (hh_way_targetsf : rb h_way_targetsf 80 (-1) 19) (hh_way_placesf : rb h_way_placesf 21 0 19) (hh_way_arrivalsf : rbk h_way_arrivalsf 21 (-2) 4) (hh_told_rows : 0 ≤ h_told_rows.toInt ∧ h_told_rows.toInt ≤ 4) (hh_told_unsureCount : 0 ≤ h_told_unsureCount.toInt ∧ h_told_unsureCount.toInt ≤ 5) (hh_told_walkers : 0 ≤ h_told_walkers.toInt ∧ h_told_walkers.toInt ≤ 4) (hh_told_walks : 0 ≤ h_told_walks.toInt ∧ h_told_walks.toInt ≤ 6) (hn_walkers : 0 ≤ n_walkers.toInt ∧ n_walkers.toInt ≤ 4) (hn_ground_wide : 0 ≤ n_ground_wide.toInt ∧ n_ground_wide.toInt ≤ 5) (hn_ground_deep : 0 ≤ n_ground_deep.toInt ∧ n_ground_deep.toInt ≤ 4) (hn_ground_count : 0 ≤ n_ground_count.toInt ∧ n_ground_count.toInt ≤ 20) (hn_atf : rb n_atf 4 0 19) : ctI l dC dI cy hp yX11_minutesOfAll cX11_minutesOfAll 5 .int ({ frames := 4, cells := 0, slots := 0, locals := 100 } : Room) [.ref h0, .ref h1] [(h0, .inr (10, [.ref h_tape, .ref h_now, .ref h_trial, .ref h_kept, .ref h_images, .ref h_way, .ref h_otherWay, .ref h_flood, .ref h_cutSearch, .ref h_drySearch, .ref h_guess, .ref h_fraction, .ref h_told, .ref h_draft, .int h_keptCount, .int h_imageCount, .int h_trouble])), (h_way, .inr (9, [.ref h_way_targets, .ref h_way_weights, .ref h_way_left, .ref h_way_steps, .ref h_way_places, .ref h_way_arrivals, .int h_way_length, .int h_way_fallCount])), (h_way_targets, .inl (cy 1, 80, .inl h_way_targetsf)), (h_way_weights, .inl (cy 1, 80, .inl h_way_weightsf)), (h_way_left, .inl (cy 1, 20, .inl h_way_leftf)), (h_way_steps, .inl (cy 1, 20, .inl h_way_stepsf)), (h_way_places, .inl (cy 1, 21, .inl h_way_placesf)), (h_way_arrivals, .inl (cy 1, 21, .inl h_way_arrivalsf)), (h_told, .inr (7, [.ref h_told_ground, .int h_told_errs, .int h_told_slips, .int h_told_rows, .int h_told_unsureCount, .ref h_told_unsure, .int h_told_walkers, .ref h_told_names, .ref h_told_kinds, .ref h_told_starts, .ref h_told_goals, .int h_told_walks, .ref h_told_walkStarts, .ref h_told_walkSteps, .ref h_told_walkFell])), (h_told_kinds, .inl (cy 1, 4, .inl h_told_kindsf)), (h_told_goals, .inl (cy 1, 4, .inl h_told_goalsf)), (h1, .inr (6, [.ref n_ground, .ref n_at, .ref n_fell, .ref n_went, .int n_walkers])), (n_ground, .inr (4, [.int n_ground_wide, .int n_ground_deep, .int n_ground_count, .ref n_ground_sorts])), (n_ground_sorts, .inl (cy 1, 20, .inl n_ground_sortsf)), (n_at, .inl (cy 1, 4, .inl n_atf))] (S := (Nat → Int32) × (Nat → Int32) × (Nat → Int32) × (Nat → Int32) × (Nat → Int32) × (Nat → Int32) × Int32 × Int32) (fun r u => (rb u.1 80 (-1) 19) ∧ (rb u.2.2.2.2.1 21 0 19) ∧ (rbk u.2.2.2.2.2.1 21 (-2) 4) ∧ (0 ≤ u.2.2.2.2.2.2.1.toInt ∧ u.2.2.2.2.2.2.1.toInt ≤ 20)) (fun u => [(h0, .inr (10, [.ref h_tape, .ref h_now, .ref h_trial, .ref h_kept, .ref h_images, .ref h_way, .ref h_otherWay, .ref h_flood, .ref h_cutSearch, .ref h_drySearch, .ref h_guess, .ref h_fraction, .ref h_told, .ref h_draft, .int h_keptCount, .int h_imageCount, .int h_trouble])), (h_way, .inr (9, [.ref h_way_targets, .ref h_way_weights, .ref h_way_left, .ref h_way_steps, .ref h_way_places, .ref h_way_arrivals, .int u.2.2.2.2.2.2.1, .int u.2.2.2.2.2.2.2])), (h_way_targets, .inl (cy 1, 80, .inl u.1)), (h_way_weights, .inl (cy 1, 80, .inl u.2.1)), (h_way_left, .inl (cy 1, 20, .inl u.2.2.1)), (h_way_steps, .inl (cy 1, 20, .inl u.2.2.2.1)), (h_way_places, .inl (cy 1, 21, .inl u.2.2.2.2.1)), (h_way_arrivals, .inl (cy 1, 21, .inl u.2.2.2.2.2.1)), (h_told, .inr (7, [.ref h_told_ground, .int h_told_errs, .int h_told_slips, .int h_told_rows, .int h_told_unsureCount, .ref h_told_unsure, .int h_told_walkers, .ref h_told_names, .ref h_told_kinds, .ref h_told_starts, .ref h_told_goals, .int h_told_walks, .ref h_told_walkStarts, .ref h_told_walkSteps, .ref h_told_walkFell])), (h_told_kinds, .inl (cy 1, 4, .inl h_told_kindsf)), (h_told_goals, .inl (cy 1, 4, .inl h_told_goalsf)), (h1, .inr (6, [.ref n_ground, .ref n_at, .ref n_fell, .ref n_went, .int n_walkers])), (n_ground, .inr (4, [.int n_ground_wide, .int n_ground_deep, .int n_ground_count, .ref n_ground_sorts])), (n_ground_sorts, .inl (cy 1, 20, .inl n_ground_sortsf)), (n_at, .inl (cy 1, 4, .inl n_atf))]) := by
  refine ctI.of (by decide +kernel) (Nat.le_of_ble_eq_true rfl) ?_
  intro p e s m args below meth c A ls Q hQ X hr hlocks hin hA hP hD hS hl
  have hx := X.1
  have hb := X.2.1
  have hK := X.2.2.2.2.2.1
  have hl : lv_has ls 5 [(0, .ref h0), (1, .ref h1)] := hl
  refine lv_iconst (v := 0) hx hb dX11_minutesOfAll_0 (by decide) ?_
  refine lv_istore_n (lv' := [(2, .int 0), (0, .ref h0), (1, .ref h1)]) hx hb dX11_minutesOfAll_1 rfl hl (by decide) rfl (fun ls hl => ?_)
  refine lv_iconst (v := 0) hx hb dX11_minutesOfAll_2 (by decide) ?_
  refine lv_istore_n (lv' := [(3, .int 0), (2, .int 0), (0, .ref h0), (1, .ref h1)]) hx hb dX11_minutesOfAll_3 rfl hl (by decide) rfl (fun ls hl => ?_)
  have lp_1 : ∀ (nlp_1 : Nat) (i_2 : Int32) (i_4 : Int32) (f_5 : Nat → Int32) (f_7 : Nat → Int32) (f_8 : Nat → Int32) (f_9 : Nat → Int32) (f_10 : Nat → Int32) (f_12 : Nat → Int32) (i_14 : Int32) (i_16 : Int32) (H : Heap) (locs : List Loc) (ls : Array Slot), (0 ≤ i_2.toInt ∧ i_2.toInt ≤ 4) → (rb f_5 80 (-1) 19) → (rb f_10 21 0 19) → (rbk f_12 21 (-2) 4) → (0 ≤ i_14.toInt ∧ i_14.toInt ≤ 20) → (5 - i_2.toInt ≤ (nlp_1 : Int)) → va_P (dC, dI) vwCl [(h0, .inr (10, [.ref h_tape, .ref h_now, .ref h_trial, .ref h_kept, .ref h_images, .ref h_way, .ref h_otherWay, .ref h_flood, .ref h_cutSearch, .ref h_drySearch, .ref h_guess, .ref h_fraction, .ref h_told, .ref h_draft, .int h_keptCount, .int h_imageCount, .int h_trouble])), (h_way, .inr (9, [.ref h_way_targets, .ref h_way_weights, .ref h_way_left, .ref h_way_steps, .ref h_way_places, .ref h_way_arrivals, .int i_14, .int i_16])), (h_way_targets, .inl (cy 1, 80, .inl f_5)), (h_way_weights, .inl (cy 1, 80, .inl f_7)), (h_way_left, .inl (cy 1, 20, .inl f_8)), (h_way_steps, .inl (cy 1, 20, .inl f_9)), (h_way_places, .inl (cy 1, 21, .inl f_10)), (h_way_arrivals, .inl (cy 1, 21, .inl f_12)), (h_told, .inr (7, [.ref h_told_ground, .int h_told_errs, .int h_told_slips, .int h_told_rows, .int h_told_unsureCount, .ref h_told_unsure, .int h_told_walkers, .ref h_told_names, .ref h_told_kinds, .ref h_told_starts, .ref h_told_goals, .int h_told_walks, .ref h_told_walkStarts, .ref h_told_walkSteps, .ref h_told_walkFell])), (h_told_kinds, .inl (cy 1, 4, .inl h_told_kindsf)), (h_told_goals, .inl (cy 1, 4, .inl h_told_goalsf)), (h1, .inr (6, [.ref n_ground, .ref n_at, .ref n_fell, .ref n_went, .int n_walkers])), (n_ground, .inr (4, [.int n_ground_wide, .int n_ground_deep, .int n_ground_count, .ref n_ground_sorts])), (n_ground_sorts, .inl (cy 1, 20, .inl n_ground_sortsf)), (n_at, .inl (cy 1, 4, .inl n_atf))] H → va_D A [(h0, .inr (10, [.ref h_tape, .ref h_now, .ref h_trial, .ref h_kept, .ref h_images, .ref h_way, .ref h_otherWay, .ref h_flood, .ref h_cutSearch, .ref h_drySearch, .ref h_guess, .ref h_fraction, .ref h_told, .ref h_draft, .int h_keptCount, .int h_imageCount, .int h_trouble])), (h_way, .inr (9, [.ref h_way_targets, .ref h_way_weights, .ref h_way_left, .ref h_way_steps, .ref h_way_places, .ref h_way_arrivals, .int i_14, .int i_16])), (h_way_targets, .inl (cy 1, 80, .inl f_5)), (h_way_weights, .inl (cy 1, 80, .inl f_7)), (h_way_left, .inl (cy 1, 20, .inl f_8)), (h_way_steps, .inl (cy 1, 20, .inl f_9)), (h_way_places, .inl (cy 1, 21, .inl f_10)), (h_way_arrivals, .inl (cy 1, 21, .inl f_12)), (h_told, .inr (7, [.ref h_told_ground, .int h_told_errs, .int h_told_slips, .int h_told_rows, .int h_told_unsureCount, .ref h_told_unsure, .int h_told_walkers, .ref h_told_names, .ref h_told_kinds, .ref h_told_starts, .ref h_told_goals, .int h_told_walks, .ref h_told_walkStarts, .ref h_told_walkSteps, .ref h_told_walkFell])), (h_told_kinds, .inl (cy 1, 4, .inl h_told_kindsf)), (h_told_goals, .inl (cy 1, 4, .inl h_told_goalsf)), (h1, .inr (6, [.ref n_ground, .ref n_at, .ref n_fell, .ref n_went, .int n_walkers])), (n_ground, .inr (4, [.int n_ground_wide, .int n_ground_deep, .int n_ground_count, .ref n_ground_sorts])), (n_ground_sorts, .inl (cy 1, 20, .inl n_ground_sortsf)), (n_at, .inl (cy 1, 4, .inl n_atf))] → va_S A s.heap H locs → lv_has ls 5 [(3, .int i_2), (2, .int i_4), (0, .ref h0), (1, .ref h1)] → W p l e ({ frames := 4, cells := 0, slots := 0, locals := 100 } : Room) s m args below meth c H locs 0 0 Q (F0 m 4 ls []) := by
    intro nlp_1
    induction nlp_1 with
    | zero =>
      intro i_2 i_4 f_5 f_7 f_8 f_9 f_10 f_12 i_14 i_16 H locs ls b_3 b_6 b_11 b_13 b_15 hmlp_1 hP hD hS hl
      exfalso
      have di_2 := ti_bd i_2
      have di_4 := ti_bd i_4
      have di_14 := ti_bd i_14
      have di_16 := ti_bd i_16
      omega
    | succ nlp_1 ihlp_1 =>
      intro i_2 i_4 f_5 f_7 f_8 f_9 f_10 f_12 i_14 i_16 H locs ls b_3 b_6 b_11 b_13 b_15 hmlp_1 hP hD hS hl
      refine lv_iload_n hx hb dX11_minutesOfAll_4 rfl (lv_at hl 0 rfl) ?_
      refine lv_aload_n hx hb dX11_minutesOfAll_5 rfl (lv_at hl 2 rfl) ?_
      refine r_get X kcX11 (ci := 10) rfl hP 0 rfl 12 (by decide) fX11_81 rfl dX11_minutesOfAll_6 ?_
      refine r_get X kcX7 (ci := 7) rfl hP 8 rfl 6 (by decide) fX11_223 rfl dX11_minutesOfAll_9 ?_
      refine lv_icmp_ge (tgt := 79) hx hb dX11_minutesOfAll_12 (by decide) (fun h_17 => ?_) (fun h_17 => ?_)
      · have h_17 : h_told_walkers.toInt ≤ i_2.toInt := c_le h_17
        refine lv_iload_n hx hb dX11_minutesOfAll_79 rfl (lv_at hl 1 rfl) ?_
        exact eI hQ X hr hlocks hP hD hS (f_5, f_7, f_8, f_9, f_10, f_12, i_14, i_16) [0, 1, 2, 3, 4, 5, 6, 7, 8, 9, 10, 11, 12, 13, 14] (by decide +kernel) rfl rfl (show (rb f_5 80 (-1) 19) ∧ (rb f_10 21 0 19) ∧ (rbk f_12 21 (-2) 4) ∧ (0 ≤ i_14.toInt ∧ i_14.toInt ≤ 20) from ⟨b_6, b_11, b_13, b_15⟩) (Nat.le_of_ble_eq_true rfl) (Nat.le_of_ble_eq_true rfl) dX11_minutesOfAll_80
      · have h_17 : i_2.toInt < h_told_walkers.toInt := c_nle h_17
        refine lv_aload_n hx hb dX11_minutesOfAll_15 rfl (lv_at hl 2 rfl) ?_
        refine r_get X kcX11 (ci := 10) rfl hP 0 rfl 5 (by decide) fX11_36 rfl dX11_minutesOfAll_16 ?_
        refine lv_aload_n hx hb dX11_minutesOfAll_19 rfl (lv_at hl 3 rfl) ?_
        refine r_get X kcX6 (ci := 6) rfl hP 11 rfl 0 (by decide) fX11_121 rfl dX11_minutesOfAll_20 ?_
        refine lv_aload_n hx hb dX11_minutesOfAll_23 rfl (lv_at hl 2 rfl) ?_
        refine r_get X kcX11 (ci := 10) rfl hP 0 rfl 12 (by decide) fX11_81 rfl dX11_minutesOfAll_24 ?_
        refine r_get X kcX7 (ci := 7) rfl hP 8 rfl 8 (by decide) fX11_162 rfl dX11_minutesOfAll_27 ?_
        refine lv_iload_n hx hb dX11_minutesOfAll_30 rfl (lv_at hl 0 rfl) ?_
        refine va_iald (D := (dC, dI)) (cl := vwCl) hx hb hK hP 9 1 rfl rfl (i := i_2) (vin (by omega) (by omega)) dX11_minutesOfAll_31 ?_
        refine lv_topi (fun x_18 ex_18 => ?_)
        refine lv_aload_n hx hb dX11_minutesOfAll_32 rfl (lv_at hl 3 rfl) ?_
        refine r_get X kcX6 (ci := 6) rfl hP 11 rfl 1 (by decide) fX11_166 rfl dX11_minutesOfAll_33 ?_
        refine lv_iload_n hx hb dX11_minutesOfAll_36 rfl (lv_at hl 0 rfl) ?_
        refine va_iald (D := (dC, dI)) (cl := vwCl) hx hb hK hP 14 1 rfl rfl (i := i_2) (vin (by omega) (by omega)) dX11_minutesOfAll_37 ?_
        refine lv_topi (fun x_19 ex_19 => ?_)
        have bx_19 : 0 ≤ x_19.toInt ∧ x_19.toInt ≤ 19 := rb_at hn_atf ex_19 (by omega) (by omega)
        refine lv_aload_n hx hb dX11_minutesOfAll_38 rfl (lv_at hl 2 rfl) ?_
        refine r_get X kcX11 (ci := 10) rfl hP 0 rfl 12 (by decide) fX11_81 rfl dX11_minutesOfAll_39 ?_
        refine r_get X kcX7 (ci := 7) rfl hP 8 rfl 10 (by decide) fX11_169 rfl dX11_minutesOfAll_42 ?_
        refine lv_iload_n hx hb dX11_minutesOfAll_45 rfl (lv_at hl 0 rfl) ?_
        refine va_iald (D := (dC, dI)) (cl := vwCl) hx hb hK hP 10 1 rfl rfl (i := i_2) (vin (by omega) (by omega)) dX11_minutesOfAll_46 ?_
        refine lv_topi (fun x_20 ex_20 => ?_)
        refine lv_iconst (v := 0) hx hb dX11_minutesOfAll_47 (by decide) ?_
        refine sl_Ic (rV_I (As := [.ref n_ground, .int x_18, .int x_19, .int x_20, .int 0]) (rest := []) X hp_st (fun _ _ _ h => h) (sX10_find l dC dI cy h_way h_way_targets h_way_weights h_way_left h_way_steps h_way_places h_way_arrivals i_14 i_16 f_5 f_7 f_8 f_9 f_10 f_12 n_ground n_ground_wide n_ground_deep n_ground_count n_ground_sorts n_ground_sortsf x_18 x_19 x_20 0 b_15 b_6 b_11 b_13 hn_ground_wide hn_ground_deep hn_ground_count (by first | decide | omega)) kX10_find vX10_find mX11_374 hP hD hS hA [1, 2, 3, 4, 5, 6, 7, 12, 13] (by decide +kernel) rfl 0 (ci := 9) rfl rfl rfl hl rfl rfl (Nat.le_of_ble_eq_true rfl) dX11_minutesOfAll_48 ⟨(Nat.le_of_ble_eq_true rfl), (Nat.le_of_ble_eq_true rfl)⟩ ⟨(Nat.le_of_ble_eq_true rfl), (Nat.le_of_ble_eq_true rfl)⟩) hP hD hS hA [1, 2, 3, 4, 5, 6, 7, 12, 13] [true, false, false, false, false, false, false, false, true, true, true, true, false, false, true] rfl rfl rfl (fun r_29 u_31 H locs k_30 hP hD hS => ?_)
        obtain ⟨y_targetsf1_21, y_weightsf1_22, y_leftf1_23, y_stepsf1_24, y_placesf1_25, y_arrivalsf1_26, y_length1_27, y_fallCount1_28⟩ := u_31
        have k_30 : (0 ≤ r_29.toInt ∧ r_29.toInt ≤ 1) ∧ (rb y_targetsf1_21 80 (-1) 19) ∧ (rb y_placesf1_25 21 0 19) ∧ (rbk y_arrivalsf1_26 21 (-2) 4) ∧ (0 ≤ y_length1_27.toInt ∧ y_length1_27.toInt ≤ 20) := k_30
        obtain ⟨k_30_0, k_30_1, k_30_2, k_30_3, k_30_4⟩ := k_30
        have hPD := vPD (ws' := [(h0, .inr (10, [.ref h_tape, .ref h_now, .ref h_trial, .ref h_kept, .ref h_images, .ref h_way, .ref h_otherWay, .ref h_flood, .ref h_cutSearch, .ref h_drySearch, .ref h_guess, .ref h_fraction, .ref h_told, .ref h_draft, .int h_keptCount, .int h_imageCount, .int h_trouble])), (h_told, .inr (7, [.ref h_told_ground, .int h_told_errs, .int h_told_slips, .int h_told_rows, .int h_told_unsureCount, .ref h_told_unsure, .int h_told_walkers, .ref h_told_names, .ref h_told_kinds, .ref h_told_starts, .ref h_told_goals, .int h_told_walks, .ref h_told_walkStarts, .ref h_told_walkSteps, .ref h_told_walkFell])), (h_told_kinds, .inl (cy 1, 4, .inl h_told_kindsf)), (h_told_goals, .inl (cy 1, 4, .inl h_told_goalsf)), (h1, .inr (6, [.ref n_ground, .ref n_at, .ref n_fell, .ref n_went, .int n_walkers])), (n_at, .inl (cy 1, 4, .inl n_atf)), (h_way, .inr (9, [.ref h_way_targets, .ref h_way_weights, .ref h_way_left, .ref h_way_steps, .ref h_way_places, .ref h_way_arrivals, .int y_length1_27, .int y_fallCount1_28])), (h_way_targets, .inl (cy 1, 80, .inl y_targetsf1_21)), (h_way_weights, .inl (cy 1, 80, .inl y_weightsf1_22)), (h_way_left, .inl (cy 1, 20, .inl y_leftf1_23)), (h_way_steps, .inl (cy 1, 20, .inl y_stepsf1_24)), (h_way_places, .inl (cy 1, 21, .inl y_placesf1_25)), (h_way_arrivals, .inl (cy 1, 21, .inl y_arrivalsf1_26)), (n_ground, .inr (4, [.int n_ground_wide, .int n_ground_deep, .int n_ground_count, .ref n_ground_sorts])), (n_ground_sorts, .inl (cy 1, 20, .inl n_ground_sortsf))]) hP hD rfl
        have hP := hPD.1
        have hD := hPD.2
        refine lv_istore (lv' := [(4, .int r_29), (3, .int i_2), (2, .int i_4), (0, .ref h0), (1, .ref h1)]) hx hb dX11_minutesOfAll_51 hl (by decide) rfl (fun ls hl => ?_)
        refine lv_iload_n hx hb dX11_minutesOfAll_53 rfl (lv_at hl 2 rfl) ?_
        refine lv_iload hx hb dX11_minutesOfAll_54 (lv_at hl 0 rfl) ?_
        refine lv_if_eq (tgt := 69) hx hb dX11_minutesOfAll_56 (by decide) (fun h_32 => ?_) (fun h_32 => ?_)
        · have h_32 : r_29.toInt = 0 := c_eq h_32
          refine lv_bipush (v := 60) hx hb dX11_minutesOfAll_69 (by decide) ?_
          refine lv_iadd hx hb dX11_minutesOfAll_71 ?_
          have dy_33 := ti_bd i_4
          refine lv_topi (fun x_34 ex_34 => ?_)
          refine lv_istore_n (lv' := [(2, .int x_34), (4, .int r_29), (3, .int i_2), (0, .ref h0), (1, .ref h1)]) hx hb dX11_minutesOfAll_72 rfl hl (by decide) rfl (fun ls hl => ?_)
          obtain ⟨x_35, ex_35⟩ : ∃ y : Int32, y = i_2 + 1 := ⟨_, rfl⟩
          have tx_35 : x_35.toInt = i_2.toInt + 1 := ti_add (A := i_2.toInt) (B := 1) ex_35 rfl rfl (by omega) (by omega)
          refine lv_iinc (v := x_35) (lv' := [(3, .int x_35), (2, .int x_34), (4, .int r_29), (0, .ref h0), (1, .ref h1)]) hx hb dX11_minutesOfAll_73 hl (k := 2) rfl (by rw [ex_35]; rfl) (by decide) rfl (fun ls hl => ?_)
          refine lv_goto (tgt := 4) hx hb dX11_minutesOfAll_76 (by decide) ?_
          exact ihlp_1 x_35 x_34 y_targetsf1_21 y_weightsf1_22 y_leftf1_23 y_stepsf1_24 y_placesf1_25 y_arrivalsf1_26 y_length1_27 y_fallCount1_28 _ _ _ (by omega) k_30_1 k_30_2 k_30_3 (by omega) (show 5 - x_35.toInt ≤ (nlp_1 : Int) by omega) (hP.sub [0, 6, 7, 8, 9, 10, 11, 12, 1, 2, 3, 4, 13, 14, 5] rfl) (hD.sub [0, 6, 7, 8, 9, 10, 11, 12, 1, 2, 3, 4, 13, 14, 5] (by decide +kernel) rfl) hS (lv_sub hl [0, 1, 3, 4] rfl)
        · have h_32 : r_29.toInt ≠ 0 := c_ne h_32
          refine lv_aload_n hx hb dX11_minutesOfAll_59 rfl (lv_at hl 3 rfl) ?_
          refine r_get X kcX11 (ci := 10) rfl hP 0 rfl 5 (by decide) fX11_36 rfl dX11_minutesOfAll_60 ?_
          refine sl_Ic (rV_I (As := []) (rest := [.int i_4]) X hp_st (fun _ _ _ h => h) (sX10_minutesInAll l dC dI cy h_way h_way_targets h_way_weights h_way_left h_way_steps h_way_places h_way_arrivals y_length1_27 y_fallCount1_28 y_arrivalsf1_26 k_30_4 k_30_3) kX10_minutesInAll vX10_minutesInAll mX11_198 hP hD hS hA [6, 12] (by decide) rfl 0 (ci := 9) rfl rfl rfl hl rfl rfl (Nat.le_of_ble_eq_true rfl) dX11_minutesOfAll_63 ⟨(Nat.le_of_ble_eq_true rfl), (Nat.le_of_ble_eq_true rfl)⟩ ⟨(Nat.le_of_ble_eq_true rfl), (Nat.le_of_ble_eq_true rfl)⟩) hP hD hS hA [6, 12] [true, true, true, true, true, true, false, true, true, true, true, true, false, true, true] rfl rfl rfl (fun r_36 u_38 H locs k_37 hP hD hS => ?_)
          have k_37 : ((-40) ≤ r_36.toInt ∧ r_36.toInt ≤ 80) := k_37
          have hPD := vPD (ws' := [(h0, .inr (10, [.ref h_tape, .ref h_now, .ref h_trial, .ref h_kept, .ref h_images, .ref h_way, .ref h_otherWay, .ref h_flood, .ref h_cutSearch, .ref h_drySearch, .ref h_guess, .ref h_fraction, .ref h_told, .ref h_draft, .int h_keptCount, .int h_imageCount, .int h_trouble])), (h_told, .inr (7, [.ref h_told_ground, .int h_told_errs, .int h_told_slips, .int h_told_rows, .int h_told_unsureCount, .ref h_told_unsure, .int h_told_walkers, .ref h_told_names, .ref h_told_kinds, .ref h_told_starts, .ref h_told_goals, .int h_told_walks, .ref h_told_walkStarts, .ref h_told_walkSteps, .ref h_told_walkFell])), (h_told_kinds, .inl (cy 1, 4, .inl h_told_kindsf)), (h_told_goals, .inl (cy 1, 4, .inl h_told_goalsf)), (h1, .inr (6, [.ref n_ground, .ref n_at, .ref n_fell, .ref n_went, .int n_walkers])), (n_at, .inl (cy 1, 4, .inl n_atf)), (h_way_targets, .inl (cy 1, 80, .inl y_targetsf1_21)), (h_way_weights, .inl (cy 1, 80, .inl y_weightsf1_22)), (h_way_left, .inl (cy 1, 20, .inl y_leftf1_23)), (h_way_steps, .inl (cy 1, 20, .inl y_stepsf1_24)), (h_way_places, .inl (cy 1, 21, .inl y_placesf1_25)), (n_ground, .inr (4, [.int n_ground_wide, .int n_ground_deep, .int n_ground_count, .ref n_ground_sorts])), (n_ground_sorts, .inl (cy 1, 20, .inl n_ground_sortsf)), (h_way, .inr (9, [.ref h_way_targets, .ref h_way_weights, .ref h_way_left, .ref h_way_steps, .ref h_way_places, .ref h_way_arrivals, .int y_length1_27, .int y_fallCount1_28])), (h_way_arrivals, .inl (cy 1, 21, .inl y_arrivalsf1_26))]) hP hD rfl
          have hP := hPD.1
          have hD := hPD.2
          refine lv_goto (tgt := 71) hx hb dX11_minutesOfAll_66 (by decide) ?_
          refine lv_iadd hx hb dX11_minutesOfAll_71 ?_
          have dy_39 := ti_bd i_4
          refine lv_topi (fun x_40 ex_40 => ?_)
          refine lv_istore_n (lv' := [(2, .int x_40), (4, .int r_29), (3, .int i_2), (0, .ref h0), (1, .ref h1)]) hx hb dX11_minutesOfAll_72 rfl hl (by decide) rfl (fun ls hl => ?_)
          obtain ⟨x_41, ex_41⟩ : ∃ y : Int32, y = i_2 + 1 := ⟨_, rfl⟩
          have tx_41 : x_41.toInt = i_2.toInt + 1 := ti_add (A := i_2.toInt) (B := 1) ex_41 rfl rfl (by omega) (by omega)
          refine lv_iinc (v := x_41) (lv' := [(3, .int x_41), (2, .int x_40), (4, .int r_29), (0, .ref h0), (1, .ref h1)]) hx hb dX11_minutesOfAll_73 hl (k := 2) rfl (by rw [ex_41]; rfl) (by decide) rfl (fun ls hl => ?_)
          refine lv_goto (tgt := 4) hx hb dX11_minutesOfAll_76 (by decide) ?_
          exact ihlp_1 x_41 x_40 y_targetsf1_21 y_weightsf1_22 y_leftf1_23 y_stepsf1_24 y_placesf1_25 y_arrivalsf1_26 y_length1_27 y_fallCount1_28 _ _ _ (by omega) k_30_1 k_30_2 k_30_3 (by omega) (show 5 - x_41.toInt ≤ (nlp_1 : Int) by omega) (hP.sub [0, 13, 6, 7, 8, 9, 10, 14, 1, 2, 3, 4, 11, 12, 5] rfl) (hD.sub [0, 13, 6, 7, 8, 9, 10, 14, 1, 2, 3, 4, 11, 12, 5] (by decide +kernel) rfl) hS (lv_sub hl [0, 1, 3, 4] rfl)
  exact lp_1 5 0 0 h_way_targetsf h_way_weightsf h_way_leftf h_way_stepsf h_way_placesf h_way_arrivalsf h_way_length h_way_fallCount _ _ _ (by decide) hh_way_targetsf hh_way_placesf hh_way_arrivalsf (by omega) (show 5 - 0 ≤ ((5 : Nat) : Int) by omega) hP hD hS hl
set_option maxHeartbeats 4000000 in
set_option maxRecDepth 100000 in
theorem sX11_firstMeeting (l : Launch) (dC : Nat → ClassId) (dI : Nat → Nat → Nat) (cy : Nat → ClassId) (h0 : Nat) (h_tape : Nat) (h_now : Nat) (h_trial : Nat) (h_kept : Nat) (h_images : Nat) (h_way : Nat) (h_otherWay : Nat) (h_flood : Nat) (h_cutSearch : Nat) (h_drySearch : Nat) (h_guess : Nat) (h_fraction : Nat) (h_told : Nat) (h_draft : Nat) (h_keptCount : Int32) (h_imageCount : Int32) (h_trouble : Int32) (h_now_ground : Nat) (h_now_at : Nat) (h_now_fell : Nat) (h_now_went : Nat) (h_now_walkers : Int32) (h_now_ground_wide : Int32) (h_now_ground_deep : Int32) (h_now_ground_count : Int32) (h_now_ground_sorts : Nat) (h_now_ground_sortsf : Nat → Int32) (h_now_atf : Nat → Int32) (h_way_targets : Nat) (h_way_weights : Nat) (h_way_left : Nat) (h_way_steps : Nat) (h_way_places : Nat) (h_way_arrivals : Nat) (h_way_length : Int32) (h_way_fallCount : Int32) (h_way_targetsf : Nat → Int32) (h_way_weightsf : Nat → Int32) (h_way_leftf : Nat → Int32) (h_way_stepsf : Nat → Int32) (h_way_placesf : Nat → Int32) (h_way_arrivalsf : Nat → Int32) (h_otherWay_targets : Nat) (h_otherWay_weights : Nat) (h_otherWay_left : Nat) (h_otherWay_steps : Nat) (h_otherWay_places : Nat) (h_otherWay_arrivals : Nat) (h_otherWay_length : Int32) (h_otherWay_fallCount : Int32) (h_otherWay_targetsf : Nat → Int32) (h_otherWay_weightsf : Nat → Int32) (h_otherWay_leftf : Nat → Int32) (h_otherWay_stepsf : Nat → Int32) (h_otherWay_placesf : Nat → Int32) (h_otherWay_arrivalsf : Nat → Int32) (h_told_ground : Nat) (h_told_errs : Int32) (h_told_slips : Int32) (h_told_rows : Int32) (h_told_unsureCount : Int32) (h_told_unsure : Nat) (h_told_walkers : Int32) (h_told_names : Nat) (h_told_kinds : Nat) (h_told_starts : Nat) (h_told_goals : Nat) (h_told_walks : Int32) (h_told_walkStarts : Nat) (h_told_walkSteps : Nat) (h_told_walkFell : Nat) (h_told_kindsf : Nat → Int32) (h_told_goalsf : Nat → Int32) (p1 : Int32) (p2 : Int32) (hh_keptCount : 0 ≤ h_keptCount.toInt ∧ h_keptCount.toInt ≤ 16) (hh_imageCount : 0 ≤ h_imageCount.toInt ∧ h_imageCount.toInt ≤ 3) (hh_now_walkers : 0 ≤ h_now_walkers.toInt ∧ h_now_walkers.toInt ≤ 4) (hh_now_ground_wide : 0 ≤ h_now_ground_wide.toInt ∧ h_now_ground_wide.toInt ≤ 5) (hh_now_ground_deep : 0 ≤ h_now_ground_deep.toInt ∧ h_now_ground_deep.toInt ≤ 4) (hh_now_ground_count : 0 ≤ h_now_ground_count.toInt ∧ h_now_ground_count.toInt ≤ 20) (hh_now_atf : rb h_now_atf 4 0 19) (hh_way_length : 0 ≤ h_way_length.toInt ∧ h_way_length.toInt ≤ 20) (hh_way_targetsf : rb h_way_targetsf 80 (-1) 19) (hh_way_placesf : rb h_way_placesf 21 0 19) (hh_way_arrivalsf : rbk h_way_arrivalsf 21 (-2) 4) (hh_otherWay_length : 0 ≤ h_otherWay_length.toInt ∧ h_otherWay_length.toInt ≤ 20) (hh_otherWay_targetsf : rb h_otherWay_targetsf 80 (-1) 19) (hh_otherWay_placesf : rb h_otherWay_placesf 21 0 19) (hh_otherWay_arrivalsf : rbk h_otherWay_arrivalsf 21 (-2) 4) (hh_told_rows : 0 ≤ h_told_rows.toInt ∧ h_told_rows.toInt ≤ 4) (hh_told_unsureCount : 0 ≤ h_told_unsureCount.toInt ∧ h_told_unsureCount.toInt ≤ 5) (hh_told_walkers : 0 ≤ h_told_walkers.toInt ∧ h_told_walkers.toInt ≤ 4) (hh_told_walks : 0 ≤ h_told_walks.toInt ∧ h_told_walks.toInt ≤ 6) (hp1 : 0 ≤ p1.toInt ∧ p1.toInt ≤ 3) (hp2 : 0 ≤ p2.toInt ∧ p2.toInt ≤ 3) : ctI l dC dI cy hp yX11_firstMeeting cX11_firstMeeting 5 .int ({ frames := 5, cells := 0, slots := 0, locals := 122 } : Room) [.ref h0, .int p1, .int p2] [(h0, .inr (10, [.ref h_tape, .ref h_now, .ref h_trial, .ref h_kept, .ref h_images, .ref h_way, .ref h_otherWay, .ref h_flood, .ref h_cutSearch, .ref h_drySearch, .ref h_guess, .ref h_fraction, .ref h_told, .ref h_draft, .int h_keptCount, .int h_imageCount, .int h_trouble])), (h_now, .inr (6, [.ref h_now_ground, .ref h_now_at, .ref h_now_fell, .ref h_now_went, .int h_now_walkers])), (h_now_ground, .inr (4, [.int h_now_ground_wide, .int h_now_ground_deep, .int h_now_ground_count, .ref h_now_ground_sorts])), (h_now_ground_sorts, .inl (cy 1, 20, .inl h_now_ground_sortsf)), (h_now_at, .inl (cy 1, 4, .inl h_now_atf)), (h_way, .inr (9, [.ref h_way_targets, .ref h_way_weights, .ref h_way_left, .ref h_way_steps, .ref h_way_places, .ref h_way_arrivals, .int h_way_length, .int h_way_fallCount])), (h_way_targets, .inl (cy 1, 80, .inl h_way_targetsf)), (h_way_weights, .inl (cy 1, 80, .inl h_way_weightsf)), (h_way_left, .inl (cy 1, 20, .inl h_way_leftf)), (h_way_steps, .inl (cy 1, 20, .inl h_way_stepsf)), (h_way_places, .inl (cy 1, 21, .inl h_way_placesf)), (h_way_arrivals, .inl (cy 1, 21, .inl h_way_arrivalsf)), (h_otherWay, .inr (9, [.ref h_otherWay_targets, .ref h_otherWay_weights, .ref h_otherWay_left, .ref h_otherWay_steps, .ref h_otherWay_places, .ref h_otherWay_arrivals, .int h_otherWay_length, .int h_otherWay_fallCount])), (h_otherWay_targets, .inl (cy 1, 80, .inl h_otherWay_targetsf)), (h_otherWay_weights, .inl (cy 1, 80, .inl h_otherWay_weightsf)), (h_otherWay_left, .inl (cy 1, 20, .inl h_otherWay_leftf)), (h_otherWay_steps, .inl (cy 1, 20, .inl h_otherWay_stepsf)), (h_otherWay_places, .inl (cy 1, 21, .inl h_otherWay_placesf)), (h_otherWay_arrivals, .inl (cy 1, 21, .inl h_otherWay_arrivalsf)), (h_told, .inr (7, [.ref h_told_ground, .int h_told_errs, .int h_told_slips, .int h_told_rows, .int h_told_unsureCount, .ref h_told_unsure, .int h_told_walkers, .ref h_told_names, .ref h_told_kinds, .ref h_told_starts, .ref h_told_goals, .int h_told_walks, .ref h_told_walkStarts, .ref h_told_walkSteps, .ref h_told_walkFell])), (h_told_kinds, .inl (cy 1, 4, .inl h_told_kindsf)), (h_told_goals, .inl (cy 1, 4, .inl h_told_goalsf))] (S := (Nat → Int32) × (Nat → Int32) × (Nat → Int32) × (Nat → Int32) × (Nat → Int32) × (Nat → Int32) × Int32 × Int32 × (Nat → Int32) × (Nat → Int32) × (Nat → Int32) × (Nat → Int32) × (Nat → Int32) × (Nat → Int32) × Int32 × Int32) (fun r u => (rb u.1 80 (-1) 19) ∧ (rb u.2.2.2.2.1 21 0 19) ∧ (rbk u.2.2.2.2.2.1 21 (-2) 4) ∧ (0 ≤ u.2.2.2.2.2.2.1.toInt ∧ u.2.2.2.2.2.2.1.toInt ≤ 20) ∧ (rb u.2.2.2.2.2.2.2.2.1 80 (-1) 19) ∧ (rb u.2.2.2.2.2.2.2.2.2.2.2.2.1 21 0 19) ∧ (rbk u.2.2.2.2.2.2.2.2.2.2.2.2.2.1 21 (-2) 4) ∧ (0 ≤ u.2.2.2.2.2.2.2.2.2.2.2.2.2.2.1.toInt ∧ u.2.2.2.2.2.2.2.2.2.2.2.2.2.2.1.toInt ≤ 20)) (fun u => [(h0, .inr (10, [.ref h_tape, .ref h_now, .ref h_trial, .ref h_kept, .ref h_images, .ref h_way, .ref h_otherWay, .ref h_flood, .ref h_cutSearch, .ref h_drySearch, .ref h_guess, .ref h_fraction, .ref h_told, .ref h_draft, .int h_keptCount, .int h_imageCount, .int h_trouble])), (h_now, .inr (6, [.ref h_now_ground, .ref h_now_at, .ref h_now_fell, .ref h_now_went, .int h_now_walkers])), (h_now_ground, .inr (4, [.int h_now_ground_wide, .int h_now_ground_deep, .int h_now_ground_count, .ref h_now_ground_sorts])), (h_now_ground_sorts, .inl (cy 1, 20, .inl h_now_ground_sortsf)), (h_now_at, .inl (cy 1, 4, .inl h_now_atf)), (h_way, .inr (9, [.ref h_way_targets, .ref h_way_weights, .ref h_way_left, .ref h_way_steps, .ref h_way_places, .ref h_way_arrivals, .int u.2.2.2.2.2.2.1, .int u.2.2.2.2.2.2.2.1])), (h_way_targets, .inl (cy 1, 80, .inl u.1)), (h_way_weights, .inl (cy 1, 80, .inl u.2.1)), (h_way_left, .inl (cy 1, 20, .inl u.2.2.1)), (h_way_steps, .inl (cy 1, 20, .inl u.2.2.2.1)), (h_way_places, .inl (cy 1, 21, .inl u.2.2.2.2.1)), (h_way_arrivals, .inl (cy 1, 21, .inl u.2.2.2.2.2.1)), (h_otherWay, .inr (9, [.ref h_otherWay_targets, .ref h_otherWay_weights, .ref h_otherWay_left, .ref h_otherWay_steps, .ref h_otherWay_places, .ref h_otherWay_arrivals, .int u.2.2.2.2.2.2.2.2.2.2.2.2.2.2.1, .int u.2.2.2.2.2.2.2.2.2.2.2.2.2.2.2])), (h_otherWay_targets, .inl (cy 1, 80, .inl u.2.2.2.2.2.2.2.2.1)), (h_otherWay_weights, .inl (cy 1, 80, .inl u.2.2.2.2.2.2.2.2.2.1)), (h_otherWay_left, .inl (cy 1, 20, .inl u.2.2.2.2.2.2.2.2.2.2.1)), (h_otherWay_steps, .inl (cy 1, 20, .inl u.2.2.2.2.2.2.2.2.2.2.2.1)), (h_otherWay_places, .inl (cy 1, 21, .inl u.2.2.2.2.2.2.2.2.2.2.2.2.1)), (h_otherWay_arrivals, .inl (cy 1, 21, .inl u.2.2.2.2.2.2.2.2.2.2.2.2.2.1)), (h_told, .inr (7, [.ref h_told_ground, .int h_told_errs, .int h_told_slips, .int h_told_rows, .int h_told_unsureCount, .ref h_told_unsure, .int h_told_walkers, .ref h_told_names, .ref h_told_kinds, .ref h_told_starts, .ref h_told_goals, .int h_told_walks, .ref h_told_walkStarts, .ref h_told_walkSteps, .ref h_told_walkFell])), (h_told_kinds, .inl (cy 1, 4, .inl h_told_kindsf)), (h_told_goals, .inl (cy 1, 4, .inl h_told_goalsf))]) := by
  refine ctI.of (by decide +kernel) (Nat.le_of_ble_eq_true rfl) ?_
  intro p e s m args below meth c A ls Q hQ X hr hlocks hin hA hP hD hS hl
  have hx := X.1
  have hb := X.2.1
  have hK := X.2.2.2.2.2.1
  have hl : lv_has ls 5 [(0, .ref h0), (1, .int p1), (2, .int p2)] := hl
  refine lv_aload_n hx hb dX11_firstMeeting_0 rfl (lv_at hl 0 rfl) ?_
  refine lv_aload_n hx hb dX11_firstMeeting_1 rfl (lv_at hl 0 rfl) ?_
  refine r_get X kcX11 (ci := 10) rfl hP 0 rfl 5 (by decide) fX11_36 rfl dX11_firstMeeting_2 ?_
  refine lv_iload_n hx hb dX11_firstMeeting_5 rfl (lv_at hl 1 rfl) ?_
  refine sl_Ic (rV_I (As := [.ref h_way, .int p1]) (rest := []) X hp_st (fun _ _ _ h => h) (sX11_findQuick l dC dI cy h0 h_tape h_now h_trial h_kept h_images h_way h_otherWay h_flood h_cutSearch h_drySearch h_guess h_fraction h_told h_draft h_keptCount h_imageCount h_trouble h_now_ground h_now_at h_now_fell h_now_went h_now_walkers h_now_ground_wide h_now_ground_deep h_now_ground_count h_now_ground_sorts h_now_ground_sortsf h_now_atf h_told_ground h_told_errs h_told_slips h_told_rows h_told_unsureCount h_told_unsure h_told_walkers h_told_names h_told_kinds h_told_starts h_told_goals h_told_walks h_told_walkStarts h_told_walkSteps h_told_walkFell h_told_kindsf h_told_goalsf h_way h_way_targets h_way_weights h_way_left h_way_steps h_way_places h_way_arrivals h_way_length h_way_fallCount h_way_targetsf h_way_weightsf h_way_leftf h_way_stepsf h_way_placesf h_way_arrivalsf p1 hh_keptCount hh_imageCount hh_now_walkers hh_now_ground_wide hh_now_ground_deep hh_now_ground_count hh_now_atf hh_told_rows hh_told_unsureCount hh_told_walkers hh_told_walks hh_way_length hh_way_targetsf hh_way_placesf hh_way_arrivalsf hp1) kX11_findQuick vX11_findQuick mX11_194 hP hD hS hA [0, 1, 2, 3, 4, 19, 20, 21, 5, 6, 7, 8, 9, 10, 11] (by decide +kernel) rfl 0 (ci := 10) rfl rfl rfl hl rfl rfl (Nat.le_of_ble_eq_true rfl) dX11_firstMeeting_6 ⟨(Nat.le_of_ble_eq_true rfl), (Nat.le_of_ble_eq_true rfl)⟩ ⟨(Nat.le_of_ble_eq_true rfl), (Nat.le_of_ble_eq_true rfl)⟩) hP hD hS hA [0, 1, 2, 3, 4, 19, 20, 21, 5, 6, 7, 8, 9, 10, 11] [false, false, false, false, false, false, false, false, false, false, false, false, true, true, true, true, true, true, true, false, false, false] rfl rfl rfl (fun r_9 u_11 H locs k_10 hP hD hS => ?_)
  obtain ⟨y_targetsf1_1, y_weightsf1_2, y_leftf1_3, y_stepsf1_4, y_placesf1_5, y_arrivalsf1_6, y_length1_7, y_fallCount1_8⟩ := u_11
  have k_10 : (0 ≤ r_9.toInt ∧ r_9.toInt ≤ 1) ∧ (rb y_targetsf1_1 80 (-1) 19) ∧ (rb y_placesf1_5 21 0 19) ∧ (rbk y_arrivalsf1_6 21 (-2) 4) ∧ (0 ≤ y_length1_7.toInt ∧ y_length1_7.toInt ≤ 20) := k_10
  obtain ⟨k_10_0, k_10_1, k_10_2, k_10_3, k_10_4⟩ := k_10
  have hPD := vPD (ws' := [(h_otherWay, .inr (9, [.ref h_otherWay_targets, .ref h_otherWay_weights, .ref h_otherWay_left, .ref h_otherWay_steps, .ref h_otherWay_places, .ref h_otherWay_arrivals, .int h_otherWay_length, .int h_otherWay_fallCount])), (h_otherWay_targets, .inl (cy 1, 80, .inl h_otherWay_targetsf)), (h_otherWay_weights, .inl (cy 1, 80, .inl h_otherWay_weightsf)), (h_otherWay_left, .inl (cy 1, 20, .inl h_otherWay_leftf)), (h_otherWay_steps, .inl (cy 1, 20, .inl h_otherWay_stepsf)), (h_otherWay_places, .inl (cy 1, 21, .inl h_otherWay_placesf)), (h_otherWay_arrivals, .inl (cy 1, 21, .inl h_otherWay_arrivalsf)), (h0, .inr (10, [.ref h_tape, .ref h_now, .ref h_trial, .ref h_kept, .ref h_images, .ref h_way, .ref h_otherWay, .ref h_flood, .ref h_cutSearch, .ref h_drySearch, .ref h_guess, .ref h_fraction, .ref h_told, .ref h_draft, .int h_keptCount, .int h_imageCount, .int h_trouble])), (h_now, .inr (6, [.ref h_now_ground, .ref h_now_at, .ref h_now_fell, .ref h_now_went, .int h_now_walkers])), (h_now_ground, .inr (4, [.int h_now_ground_wide, .int h_now_ground_deep, .int h_now_ground_count, .ref h_now_ground_sorts])), (h_now_ground_sorts, .inl (cy 1, 20, .inl h_now_ground_sortsf)), (h_now_at, .inl (cy 1, 4, .inl h_now_atf)), (h_told, .inr (7, [.ref h_told_ground, .int h_told_errs, .int h_told_slips, .int h_told_rows, .int h_told_unsureCount, .ref h_told_unsure, .int h_told_walkers, .ref h_told_names, .ref h_told_kinds, .ref h_told_starts, .ref h_told_goals, .int h_told_walks, .ref h_told_walkStarts, .ref h_told_walkSteps, .ref h_told_walkFell])), (h_told_kinds, .inl (cy 1, 4, .inl h_told_kindsf)), (h_told_goals, .inl (cy 1, 4, .inl h_told_goalsf)), (h_way, .inr (9, [.ref h_way_targets, .ref h_way_weights, .ref h_way_left, .ref h_way_steps, .ref h_way_places, .ref h_way_arrivals, .int y_length1_7, .int y_fallCount1_8])), (h_way_targets, .inl (cy 1, 80, .inl y_targetsf1_1)), (h_way_weights, .inl (cy 1, 80, .inl y_weightsf1_2)), (h_way_left, .inl (cy 1, 20, .inl y_leftf1_3)), (h_way_steps, .inl (cy 1, 20, .inl y_stepsf1_4)), (h_way_places, .inl (cy 1, 21, .inl y_placesf1_5)), (h_way_arrivals, .inl (cy 1, 21, .inl y_arrivalsf1_6))]) hP hD rfl
  have hP := hPD.1
  have hD := hPD.2
  refine lv_if_eq (tgt := 24) hx hb dX11_firstMeeting_9 (by decide) (fun h_12 => ?_) (fun h_12 => ?_)
  · have h_12 : r_9.toInt = 0 := c_eq h_12
    refine lv_bipush (v := -2) hx hb dX11_firstMeeting_24 (by decide) ?_
    exact eI hQ X hr hlocks hP hD hS (y_targetsf1_1, y_weightsf1_2, y_leftf1_3, y_stepsf1_4, y_placesf1_5, y_arrivalsf1_6, y_length1_7, y_fallCount1_8, h_otherWay_targetsf, h_otherWay_weightsf, h_otherWay_leftf, h_otherWay_stepsf, h_otherWay_placesf, h_otherWay_arrivalsf, h_otherWay_length, h_otherWay_fallCount) [7, 8, 9, 10, 11, 15, 16, 17, 18, 19, 20, 21, 0, 1, 2, 3, 4, 5, 6, 12, 13, 14] (by decide +kernel) rfl rfl (show (rb y_targetsf1_1 80 (-1) 19) ∧ (rb y_placesf1_5 21 0 19) ∧ (rbk y_arrivalsf1_6 21 (-2) 4) ∧ (0 ≤ y_length1_7.toInt ∧ y_length1_7.toInt ≤ 20) ∧ (rb h_otherWay_targetsf 80 (-1) 19) ∧ (rb h_otherWay_placesf 21 0 19) ∧ (rbk h_otherWay_arrivalsf 21 (-2) 4) ∧ (0 ≤ h_otherWay_length.toInt ∧ h_otherWay_length.toInt ≤ 20) from ⟨k_10_1, k_10_2, k_10_3, k_10_4, hh_otherWay_targetsf, hh_otherWay_placesf, hh_otherWay_arrivalsf, hh_otherWay_length⟩) (Nat.le_of_ble_eq_true rfl) (Nat.le_of_ble_eq_true rfl) dX11_firstMeeting_26
  · have h_12 : r_9.toInt ≠ 0 := c_ne h_12
    refine lv_aload_n hx hb dX11_firstMeeting_12 rfl (lv_at hl 0 rfl) ?_
    refine lv_aload_n hx hb dX11_firstMeeting_13 rfl (lv_at hl 0 rfl) ?_
    refine r_get X kcX11 (ci := 10) rfl hP 7 rfl 6 (by decide) fX11_40 rfl dX11_firstMeeting_14 ?_
    refine lv_iload_n hx hb dX11_firstMeeting_17 rfl (lv_at hl 2 rfl) ?_
    refine sl_Ic (rV_I (As := [.ref h_otherWay, .int p2]) (rest := []) X hp_st (fun _ _ _ h => h) (sX11_findQuick l dC dI cy h0 h_tape h_now h_trial h_kept h_images h_way h_otherWay h_flood h_cutSearch h_drySearch h_guess h_fraction h_told h_draft h_keptCount h_imageCount h_trouble h_now_ground h_now_at h_now_fell h_now_went h_now_walkers h_now_ground_wide h_now_ground_deep h_now_ground_count h_now_ground_sorts h_now_ground_sortsf h_now_atf h_told_ground h_told_errs h_told_slips h_told_rows h_told_unsureCount h_told_unsure h_told_walkers h_told_names h_told_kinds h_told_starts h_told_goals h_told_walks h_told_walkStarts h_told_walkSteps h_told_walkFell h_told_kindsf h_told_goalsf h_otherWay h_otherWay_targets h_otherWay_weights h_otherWay_left h_otherWay_steps h_otherWay_places h_otherWay_arrivals h_otherWay_length h_otherWay_fallCount h_otherWay_targetsf h_otherWay_weightsf h_otherWay_leftf h_otherWay_stepsf h_otherWay_placesf h_otherWay_arrivalsf p2 hh_keptCount hh_imageCount hh_now_walkers hh_now_ground_wide hh_now_ground_deep hh_now_ground_count hh_now_atf hh_told_rows hh_told_unsureCount hh_told_walkers hh_told_walks hh_otherWay_length hh_otherWay_targetsf hh_otherWay_placesf hh_otherWay_arrivalsf hp2) kX11_findQuick vX11_findQuick mX11_194 hP hD hS hA [7, 8, 9, 10, 11, 12, 13, 14, 0, 1, 2, 3, 4, 5, 6] (by decide +kernel) rfl 0 (ci := 10) rfl rfl rfl hl rfl rfl (Nat.le_of_ble_eq_true rfl) dX11_firstMeeting_18 ⟨(Nat.le_of_ble_eq_true rfl), (Nat.le_of_ble_eq_true rfl)⟩ ⟨(Nat.le_of_ble_eq_true rfl), (Nat.le_of_ble_eq_true rfl)⟩) hP hD hS hA [7, 8, 9, 10, 11, 12, 13, 14, 0, 1, 2, 3, 4, 5, 6] [false, false, false, false, false, false, false, false, false, false, false, false, false, false, false, true, true, true, true, true, true, true] rfl rfl rfl (fun r_21 u_23 H locs k_22 hP hD hS => ?_)
    obtain ⟨y_targetsf1_13, y_weightsf1_14, y_leftf1_15, y_stepsf1_16, y_placesf1_17, y_arrivalsf1_18, y_length1_19, y_fallCount1_20⟩ := u_23
    have k_22 : (0 ≤ r_21.toInt ∧ r_21.toInt ≤ 1) ∧ (rb y_targetsf1_13 80 (-1) 19) ∧ (rb y_placesf1_17 21 0 19) ∧ (rbk y_arrivalsf1_18 21 (-2) 4) ∧ (0 ≤ y_length1_19.toInt ∧ y_length1_19.toInt ≤ 20) := k_22
    obtain ⟨k_22_0, k_22_1, k_22_2, k_22_3, k_22_4⟩ := k_22
    have hPD := vPD (ws' := [(h_way, .inr (9, [.ref h_way_targets, .ref h_way_weights, .ref h_way_left, .ref h_way_steps, .ref h_way_places, .ref h_way_arrivals, .int y_length1_7, .int y_fallCount1_8])), (h_way_targets, .inl (cy 1, 80, .inl y_targetsf1_1)), (h_way_weights, .inl (cy 1, 80, .inl y_weightsf1_2)), (h_way_left, .inl (cy 1, 20, .inl y_leftf1_3)), (h_way_steps, .inl (cy 1, 20, .inl y_stepsf1_4)), (h_way_places, .inl (cy 1, 21, .inl y_placesf1_5)), (h_way_arrivals, .inl (cy 1, 21, .inl y_arrivalsf1_6)), (h0, .inr (10, [.ref h_tape, .ref h_now, .ref h_trial, .ref h_kept, .ref h_images, .ref h_way, .ref h_otherWay, .ref h_flood, .ref h_cutSearch, .ref h_drySearch, .ref h_guess, .ref h_fraction, .ref h_told, .ref h_draft, .int h_keptCount, .int h_imageCount, .int h_trouble])), (h_now, .inr (6, [.ref h_now_ground, .ref h_now_at, .ref h_now_fell, .ref h_now_went, .int h_now_walkers])), (h_now_ground, .inr (4, [.int h_now_ground_wide, .int h_now_ground_deep, .int h_now_ground_count, .ref h_now_ground_sorts])), (h_now_ground_sorts, .inl (cy 1, 20, .inl h_now_ground_sortsf)), (h_now_at, .inl (cy 1, 4, .inl h_now_atf)), (h_told, .inr (7, [.ref h_told_ground, .int h_told_errs, .int h_told_slips, .int h_told_rows, .int h_told_unsureCount, .ref h_told_unsure, .int h_told_walkers, .ref h_told_names, .ref h_told_kinds, .ref h_told_starts, .ref h_told_goals, .int h_told_walks, .ref h_told_walkStarts, .ref h_told_walkSteps, .ref h_told_walkFell])), (h_told_kinds, .inl (cy 1, 4, .inl h_told_kindsf)), (h_told_goals, .inl (cy 1, 4, .inl h_told_goalsf)), (h_otherWay, .inr (9, [.ref h_otherWay_targets, .ref h_otherWay_weights, .ref h_otherWay_left, .ref h_otherWay_steps, .ref h_otherWay_places, .ref h_otherWay_arrivals, .int y_length1_19, .int y_fallCount1_20])), (h_otherWay_targets, .inl (cy 1, 80, .inl y_targetsf1_13)), (h_otherWay_weights, .inl (cy 1, 80, .inl y_weightsf1_14)), (h_otherWay_left, .inl (cy 1, 20, .inl y_leftf1_15)), (h_otherWay_steps, .inl (cy 1, 20, .inl y_stepsf1_16)), (h_otherWay_places, .inl (cy 1, 21, .inl y_placesf1_17)), (h_otherWay_arrivals, .inl (cy 1, 21, .inl y_arrivalsf1_18))]) hP hD rfl
    have hP := hPD.1
    have hD := hPD.2
    refine lv_if_ne (tgt := 27) hx hb dX11_firstMeeting_21 (by decide) (fun h_24 => ?_) (fun h_24 => ?_)
    · have h_24 : r_21.toInt ≠ 0 := c_ne h_24
      refine lv_aload_n hx hb dX11_firstMeeting_27 rfl (lv_at hl 0 rfl) ?_
      refine r_get X kcX11 (ci := 10) rfl hP 7 rfl 5 (by decide) fX11_36 rfl dX11_firstMeeting_28 ?_
      refine sl_Ic (rV_I (As := []) (rest := []) X hp_st (fun _ _ _ h => h) (sX10_minutesInAll l dC dI cy h_way h_way_targets h_way_weights h_way_left h_way_steps h_way_places h_way_arrivals y_length1_7 y_fallCount1_8 y_arrivalsf1_6 k_10_4 k_10_3) kX10_minutesInAll vX10_minutesInAll mX11_198 hP hD hS hA [0, 6] (by decide) rfl 0 (ci := 9) rfl rfl rfl hl rfl rfl (Nat.le_of_ble_eq_true rfl) dX11_firstMeeting_31 ⟨(Nat.le_of_ble_eq_true rfl), (Nat.le_of_ble_eq_true rfl)⟩ ⟨(Nat.le_of_ble_eq_true rfl), (Nat.le_of_ble_eq_true rfl)⟩) hP hD hS hA [0, 6] [false, true, true, true, true, true, false, true, true, true, true, true, true, true, true, true, true, true, true, true, true, true] rfl rfl rfl (fun r_25 u_27 H locs k_26 hP hD hS => ?_)
      have k_26 : ((-40) ≤ r_25.toInt ∧ r_25.toInt ≤ 80) := k_26
      have hPD := vPD (ws' := [(h_way_targets, .inl (cy 1, 80, .inl y_targetsf1_1)), (h_way_weights, .inl (cy 1, 80, .inl y_weightsf1_2)), (h_way_left, .inl (cy 1, 20, .inl y_leftf1_3)), (h_way_steps, .inl (cy 1, 20, .inl y_stepsf1_4)), (h_way_places, .inl (cy 1, 21, .inl y_placesf1_5)), (h0, .inr (10, [.ref h_tape, .ref h_now, .ref h_trial, .ref h_kept, .ref h_images, .ref h_way, .ref h_otherWay, .ref h_flood, .ref h_cutSearch, .ref h_drySearch, .ref h_guess, .ref h_fraction, .ref h_told, .ref h_draft, .int h_keptCount, .int h_imageCount, .int h_trouble])), (h_now, .inr (6, [.ref h_now_ground, .ref h_now_at, .ref h_now_fell, .ref h_now_went, .int h_now_walkers])), (h_now_ground, .inr (4, [.int h_now_ground_wide, .int h_now_ground_deep, .int h_now_ground_count, .ref h_now_ground_sorts])), (h_now_ground_sorts, .inl (cy 1, 20, .inl h_now_ground_sortsf)), (h_now_at, .inl (cy 1, 4, .inl h_now_atf)), (h_told, .inr (7, [.ref h_told_ground, .int h_told_errs, .int h_told_slips, .int h_told_rows, .int h_told_unsureCount, .ref h_told_unsure, .int h_told_walkers, .ref h_told_names, .ref h_told_kinds, .ref h_told_starts, .ref h_told_goals, .int h_told_walks, .ref h_told_walkStarts, .ref h_told_walkSteps, .ref h_told_walkFell])), (h_told_kinds, .inl (cy 1, 4, .inl h_told_kindsf)), (h_told_goals, .inl (cy 1, 4, .inl h_told_goalsf)), (h_otherWay, .inr (9, [.ref h_otherWay_targets, .ref h_otherWay_weights, .ref h_otherWay_left, .ref h_otherWay_steps, .ref h_otherWay_places, .ref h_otherWay_arrivals, .int y_length1_19, .int y_fallCount1_20])), (h_otherWay_targets, .inl (cy 1, 80, .inl y_targetsf1_13)), (h_otherWay_weights, .inl (cy 1, 80, .inl y_weightsf1_14)), (h_otherWay_left, .inl (cy 1, 20, .inl y_leftf1_15)), (h_otherWay_steps, .inl (cy 1, 20, .inl y_stepsf1_16)), (h_otherWay_places, .inl (cy 1, 21, .inl y_placesf1_17)), (h_otherWay_arrivals, .inl (cy 1, 21, .inl y_arrivalsf1_18)), (h_way, .inr (9, [.ref h_way_targets, .ref h_way_weights, .ref h_way_left, .ref h_way_steps, .ref h_way_places, .ref h_way_arrivals, .int y_length1_7, .int y_fallCount1_8])), (h_way_arrivals, .inl (cy 1, 21, .inl y_arrivalsf1_6))]) hP hD rfl
      have hP := hPD.1
      have hD := hPD.2
      refine lv_aload_n hx hb dX11_firstMeeting_34 rfl (lv_at hl 0 rfl) ?_
      refine r_get X kcX11 (ci := 10) rfl hP 5 rfl 6 (by decide) fX11_40 rfl dX11_firstMeeting_35 ?_
      refine sl_Ic (rV_I (As := []) (rest := [.int r_25]) X hp_st (fun _ _ _ h => h) (sX10_minutesInAll l dC dI cy h_otherWay h_otherWay_targets h_otherWay_weights h_otherWay_left h_otherWay_steps h_otherWay_places h_otherWay_arrivals y_length1_19 y_fallCount1_20 y_arrivalsf1_18 k_22_4 k_22_3) kX10_minutesInAll vX10_minutesInAll mX11_198 hP hD hS hA [13, 19] (by decide) rfl 0 (ci := 9) rfl rfl rfl hl rfl rfl (Nat.le_of_ble_eq_true rfl) dX11_firstMeeting_38 ⟨(Nat.le_of_ble_eq_true rfl), (Nat.le_of_ble_eq_true rfl)⟩ ⟨(Nat.le_of_ble_eq_true rfl), (Nat.le_of_ble_eq_true rfl)⟩) hP hD hS hA [13, 19] [true, true, true, true, true, true, true, true, true, true, true, true, true, false, true, true, true, true, true, false, true, true] rfl rfl rfl (fun r_28 u_30 H locs k_29 hP hD hS => ?_)
      have k_29 : ((-40) ≤ r_28.toInt ∧ r_28.toInt ≤ 80) := k_29
      have hPD := vPD (ws' := [(h_way_targets, .inl (cy 1, 80, .inl y_targetsf1_1)), (h_way_weights, .inl (cy 1, 80, .inl y_weightsf1_2)), (h_way_left, .inl (cy 1, 20, .inl y_leftf1_3)), (h_way_steps, .inl (cy 1, 20, .inl y_stepsf1_4)), (h_way_places, .inl (cy 1, 21, .inl y_placesf1_5)), (h0, .inr (10, [.ref h_tape, .ref h_now, .ref h_trial, .ref h_kept, .ref h_images, .ref h_way, .ref h_otherWay, .ref h_flood, .ref h_cutSearch, .ref h_drySearch, .ref h_guess, .ref h_fraction, .ref h_told, .ref h_draft, .int h_keptCount, .int h_imageCount, .int h_trouble])), (h_now, .inr (6, [.ref h_now_ground, .ref h_now_at, .ref h_now_fell, .ref h_now_went, .int h_now_walkers])), (h_now_ground, .inr (4, [.int h_now_ground_wide, .int h_now_ground_deep, .int h_now_ground_count, .ref h_now_ground_sorts])), (h_now_ground_sorts, .inl (cy 1, 20, .inl h_now_ground_sortsf)), (h_now_at, .inl (cy 1, 4, .inl h_now_atf)), (h_told, .inr (7, [.ref h_told_ground, .int h_told_errs, .int h_told_slips, .int h_told_rows, .int h_told_unsureCount, .ref h_told_unsure, .int h_told_walkers, .ref h_told_names, .ref h_told_kinds, .ref h_told_starts, .ref h_told_goals, .int h_told_walks, .ref h_told_walkStarts, .ref h_told_walkSteps, .ref h_told_walkFell])), (h_told_kinds, .inl (cy 1, 4, .inl h_told_kindsf)), (h_told_goals, .inl (cy 1, 4, .inl h_told_goalsf)), (h_otherWay_targets, .inl (cy 1, 80, .inl y_targetsf1_13)), (h_otherWay_weights, .inl (cy 1, 80, .inl y_weightsf1_14)), (h_otherWay_left, .inl (cy 1, 20, .inl y_leftf1_15)), (h_otherWay_steps, .inl (cy 1, 20, .inl y_stepsf1_16)), (h_otherWay_places, .inl (cy 1, 21, .inl y_placesf1_17)), (h_way, .inr (9, [.ref h_way_targets, .ref h_way_weights, .ref h_way_left, .ref h_way_steps, .ref h_way_places, .ref h_way_arrivals, .int y_length1_7, .int y_fallCount1_8])), (h_way_arrivals, .inl (cy 1, 21, .inl y_arrivalsf1_6)), (h_otherWay, .inr (9, [.ref h_otherWay_targets, .ref h_otherWay_weights, .ref h_otherWay_left, .ref h_otherWay_steps, .ref h_otherWay_places, .ref h_otherWay_arrivals, .int y_length1_19, .int y_fallCount1_20])), (h_otherWay_arrivals, .inl (cy 1, 21, .inl y_arrivalsf1_18))]) hP hD rfl
      have hP := hPD.1
      have hD := hPD.2
      refine va_mmax hx hb (X.2.2.1.trans hl.1.symm) X.2.2.2.1 (X.2.2.2.2.1 _ w_1048) (X.2.2.2.2.1 _ w_546) (X.2.2.2.2.1 _ w_113) (X.2.2.2.2.1 _ w_547) (Nat.le_of_ble_eq_true rfl) (Nat.le_of_ble_eq_true rfl) (Nat.le_of_ble_eq_true rfl) (Nat.le_of_ble_eq_true rfl) dX11_firstMeeting_41 ?_
      refine lv_topi (fun x_31 ex_31 => ?_)
      have tx_31 := ti_max ex_31
      refine lv_istore_n (lv' := [(3, .int x_31), (0, .ref h0), (1, .int p1), (2, .int p2)]) hx hb dX11_firstMeeting_44 rfl hl (by decide) rfl (fun ls hl => ?_)
      refine lv_iconst (v := 0) hx hb dX11_firstMeeting_45 (by decide) ?_
      refine lv_istore (lv' := [(4, .int 0), (3, .int x_31), (0, .ref h0), (1, .int p1), (2, .int p2)]) hx hb dX11_firstMeeting_46 hl (by decide) rfl (fun ls hl => ?_)
      have lp_32 : ∀ (nlp_32 : Nat) (i_33 : Int32) (H : Heap) (locs : List Loc) (ls : Array Slot), (0 ≤ i_33.toInt ∧ i_33.toInt ≤ 81) → (82 - i_33.toInt ≤ (nlp_32 : Int)) → va_P (dC, dI) vwCl [(h_way_targets, .inl (cy 1, 80, .inl y_targetsf1_1)), (h_way_weights, .inl (cy 1, 80, .inl y_weightsf1_2)), (h_way_left, .inl (cy 1, 20, .inl y_leftf1_3)), (h_way_steps, .inl (cy 1, 20, .inl y_stepsf1_4)), (h_way_places, .inl (cy 1, 21, .inl y_placesf1_5)), (h0, .inr (10, [.ref h_tape, .ref h_now, .ref h_trial, .ref h_kept, .ref h_images, .ref h_way, .ref h_otherWay, .ref h_flood, .ref h_cutSearch, .ref h_drySearch, .ref h_guess, .ref h_fraction, .ref h_told, .ref h_draft, .int h_keptCount, .int h_imageCount, .int h_trouble])), (h_now, .inr (6, [.ref h_now_ground, .ref h_now_at, .ref h_now_fell, .ref h_now_went, .int h_now_walkers])), (h_now_ground, .inr (4, [.int h_now_ground_wide, .int h_now_ground_deep, .int h_now_ground_count, .ref h_now_ground_sorts])), (h_now_ground_sorts, .inl (cy 1, 20, .inl h_now_ground_sortsf)), (h_now_at, .inl (cy 1, 4, .inl h_now_atf)), (h_told, .inr (7, [.ref h_told_ground, .int h_told_errs, .int h_told_slips, .int h_told_rows, .int h_told_unsureCount, .ref h_told_unsure, .int h_told_walkers, .ref h_told_names, .ref h_told_kinds, .ref h_told_starts, .ref h_told_goals, .int h_told_walks, .ref h_told_walkStarts, .ref h_told_walkSteps, .ref h_told_walkFell])), (h_told_kinds, .inl (cy 1, 4, .inl h_told_kindsf)), (h_told_goals, .inl (cy 1, 4, .inl h_told_goalsf)), (h_otherWay_targets, .inl (cy 1, 80, .inl y_targetsf1_13)), (h_otherWay_weights, .inl (cy 1, 80, .inl y_weightsf1_14)), (h_otherWay_left, .inl (cy 1, 20, .inl y_leftf1_15)), (h_otherWay_steps, .inl (cy 1, 20, .inl y_stepsf1_16)), (h_otherWay_places, .inl (cy 1, 21, .inl y_placesf1_17)), (h_way, .inr (9, [.ref h_way_targets, .ref h_way_weights, .ref h_way_left, .ref h_way_steps, .ref h_way_places, .ref h_way_arrivals, .int y_length1_7, .int y_fallCount1_8])), (h_way_arrivals, .inl (cy 1, 21, .inl y_arrivalsf1_6)), (h_otherWay, .inr (9, [.ref h_otherWay_targets, .ref h_otherWay_weights, .ref h_otherWay_left, .ref h_otherWay_steps, .ref h_otherWay_places, .ref h_otherWay_arrivals, .int y_length1_19, .int y_fallCount1_20])), (h_otherWay_arrivals, .inl (cy 1, 21, .inl y_arrivalsf1_18))] H → va_D A [(h_way_targets, .inl (cy 1, 80, .inl y_targetsf1_1)), (h_way_weights, .inl (cy 1, 80, .inl y_weightsf1_2)), (h_way_left, .inl (cy 1, 20, .inl y_leftf1_3)), (h_way_steps, .inl (cy 1, 20, .inl y_stepsf1_4)), (h_way_places, .inl (cy 1, 21, .inl y_placesf1_5)), (h0, .inr (10, [.ref h_tape, .ref h_now, .ref h_trial, .ref h_kept, .ref h_images, .ref h_way, .ref h_otherWay, .ref h_flood, .ref h_cutSearch, .ref h_drySearch, .ref h_guess, .ref h_fraction, .ref h_told, .ref h_draft, .int h_keptCount, .int h_imageCount, .int h_trouble])), (h_now, .inr (6, [.ref h_now_ground, .ref h_now_at, .ref h_now_fell, .ref h_now_went, .int h_now_walkers])), (h_now_ground, .inr (4, [.int h_now_ground_wide, .int h_now_ground_deep, .int h_now_ground_count, .ref h_now_ground_sorts])), (h_now_ground_sorts, .inl (cy 1, 20, .inl h_now_ground_sortsf)), (h_now_at, .inl (cy 1, 4, .inl h_now_atf)), (h_told, .inr (7, [.ref h_told_ground, .int h_told_errs, .int h_told_slips, .int h_told_rows, .int h_told_unsureCount, .ref h_told_unsure, .int h_told_walkers, .ref h_told_names, .ref h_told_kinds, .ref h_told_starts, .ref h_told_goals, .int h_told_walks, .ref h_told_walkStarts, .ref h_told_walkSteps, .ref h_told_walkFell])), (h_told_kinds, .inl (cy 1, 4, .inl h_told_kindsf)), (h_told_goals, .inl (cy 1, 4, .inl h_told_goalsf)), (h_otherWay_targets, .inl (cy 1, 80, .inl y_targetsf1_13)), (h_otherWay_weights, .inl (cy 1, 80, .inl y_weightsf1_14)), (h_otherWay_left, .inl (cy 1, 20, .inl y_leftf1_15)), (h_otherWay_steps, .inl (cy 1, 20, .inl y_stepsf1_16)), (h_otherWay_places, .inl (cy 1, 21, .inl y_placesf1_17)), (h_way, .inr (9, [.ref h_way_targets, .ref h_way_weights, .ref h_way_left, .ref h_way_steps, .ref h_way_places, .ref h_way_arrivals, .int y_length1_7, .int y_fallCount1_8])), (h_way_arrivals, .inl (cy 1, 21, .inl y_arrivalsf1_6)), (h_otherWay, .inr (9, [.ref h_otherWay_targets, .ref h_otherWay_weights, .ref h_otherWay_left, .ref h_otherWay_steps, .ref h_otherWay_places, .ref h_otherWay_arrivals, .int y_length1_19, .int y_fallCount1_20])), (h_otherWay_arrivals, .inl (cy 1, 21, .inl y_arrivalsf1_18))] → va_S A s.heap H locs → lv_has ls 5 [(4, .int i_33), (3, .int x_31), (0, .ref h0), (1, .int p1), (2, .int p2)] → W p l e ({ frames := 5, cells := 0, slots := 0, locals := 122 } : Room) s m args below meth c H locs 0 0 Q (F0 m 48 ls []) := by
        intro nlp_32
        induction nlp_32 with
        | zero =>
          intro i_33 H locs ls b_34 hmlp_32 hP hD hS hl
          exfalso
          have di_33 := ti_bd i_33
          omega
        | succ nlp_32 ihlp_32 =>
          intro i_33 H locs ls b_34 hmlp_32 hP hD hS hl
          refine lv_iload hx hb dX11_firstMeeting_48 (lv_at hl 0 rfl) ?_
          refine lv_iload_n hx hb dX11_firstMeeting_50 rfl (lv_at hl 1 rfl) ?_
          refine lv_icmp_gt (tgt := 84) hx hb dX11_firstMeeting_51 (by decide) (fun h_35 => ?_) (fun h_35 => ?_)
          · have h_35 : x_31.toInt < i_33.toInt := c_lt h_35
            refine lv_bipush (v := -2) hx hb dX11_firstMeeting_84 (by decide) ?_
            exact eI hQ X hr hlocks hP hD hS (y_targetsf1_1, y_weightsf1_2, y_leftf1_3, y_stepsf1_4, y_placesf1_5, y_arrivalsf1_6, y_length1_7, y_fallCount1_8, y_targetsf1_13, y_weightsf1_14, y_leftf1_15, y_stepsf1_16, y_placesf1_17, y_arrivalsf1_18, y_length1_19, y_fallCount1_20) [5, 6, 7, 8, 9, 18, 0, 1, 2, 3, 4, 19, 20, 13, 14, 15, 16, 17, 21, 10, 11, 12] (by decide +kernel) rfl rfl (show (rb y_targetsf1_1 80 (-1) 19) ∧ (rb y_placesf1_5 21 0 19) ∧ (rbk y_arrivalsf1_6 21 (-2) 4) ∧ (0 ≤ y_length1_7.toInt ∧ y_length1_7.toInt ≤ 20) ∧ (rb y_targetsf1_13 80 (-1) 19) ∧ (rb y_placesf1_17 21 0 19) ∧ (rbk y_arrivalsf1_18 21 (-2) 4) ∧ (0 ≤ y_length1_19.toInt ∧ y_length1_19.toInt ≤ 20) from ⟨k_10_1, k_10_2, k_10_3, k_10_4, k_22_1, k_22_2, k_22_3, k_22_4⟩) (Nat.le_of_ble_eq_true rfl) (Nat.le_of_ble_eq_true rfl) dX11_firstMeeting_86
          · have h_35 : i_33.toInt ≤ x_31.toInt := c_nlt h_35
            refine lv_aload_n hx hb dX11_firstMeeting_54 rfl (lv_at hl 2 rfl) ?_
            refine r_get X kcX11 (ci := 10) rfl hP 5 rfl 5 (by decide) fX11_36 rfl dX11_firstMeeting_55 ?_
            refine lv_iload hx hb dX11_firstMeeting_58 (lv_at hl 0 rfl) ?_
            refine sl_Ic (rV_I (As := [.int i_33]) (rest := []) X hp_st (fun _ _ _ h => h) (sX10_placeAfter l dC dI cy h_way h_way_targets h_way_weights h_way_left h_way_steps h_way_places h_way_arrivals y_length1_7 y_fallCount1_8 y_placesf1_5 y_arrivalsf1_6 i_33 k_10_4 k_10_2 k_10_3) kX10_placeAfter vX10_placeAfter mX11_263 hP hD hS hA [18, 4, 19] (by decide) rfl 0 (ci := 9) rfl rfl rfl hl rfl rfl (Nat.le_of_ble_eq_true rfl) dX11_firstMeeting_60 ⟨(Nat.le_of_ble_eq_true rfl), (Nat.le_of_ble_eq_true rfl)⟩ ⟨(Nat.le_of_ble_eq_true rfl), (Nat.le_of_ble_eq_true rfl)⟩) hP hD hS hA [18, 4, 19] [true, true, true, true, false, true, true, true, true, true, true, true, true, true, true, true, true, true, false, false, true, true] rfl rfl rfl (fun r_36 u_38 H locs k_37 hP hD hS => ?_)
            have hPD := vPD (ws' := [(h_way_targets, .inl (cy 1, 80, .inl y_targetsf1_1)), (h_way_weights, .inl (cy 1, 80, .inl y_weightsf1_2)), (h_way_left, .inl (cy 1, 20, .inl y_leftf1_3)), (h_way_steps, .inl (cy 1, 20, .inl y_stepsf1_4)), (h0, .inr (10, [.ref h_tape, .ref h_now, .ref h_trial, .ref h_kept, .ref h_images, .ref h_way, .ref h_otherWay, .ref h_flood, .ref h_cutSearch, .ref h_drySearch, .ref h_guess, .ref h_fraction, .ref h_told, .ref h_draft, .int h_keptCount, .int h_imageCount, .int h_trouble])), (h_now, .inr (6, [.ref h_now_ground, .ref h_now_at, .ref h_now_fell, .ref h_now_went, .int h_now_walkers])), (h_now_ground, .inr (4, [.int h_now_ground_wide, .int h_now_ground_deep, .int h_now_ground_count, .ref h_now_ground_sorts])), (h_now_ground_sorts, .inl (cy 1, 20, .inl h_now_ground_sortsf)), (h_now_at, .inl (cy 1, 4, .inl h_now_atf)), (h_told, .inr (7, [.ref h_told_ground, .int h_told_errs, .int h_told_slips, .int h_told_rows, .int h_told_unsureCount, .ref h_told_unsure, .int h_told_walkers, .ref h_told_names, .ref h_told_kinds, .ref h_told_starts, .ref h_told_goals, .int h_told_walks, .ref h_told_walkStarts, .ref h_told_walkSteps, .ref h_told_walkFell])), (h_told_kinds, .inl (cy 1, 4, .inl h_told_kindsf)), (h_told_goals, .inl (cy 1, 4, .inl h_told_goalsf)), (h_otherWay_targets, .inl (cy 1, 80, .inl y_targetsf1_13)), (h_otherWay_weights, .inl (cy 1, 80, .inl y_weightsf1_14)), (h_otherWay_left, .inl (cy 1, 20, .inl y_leftf1_15)), (h_otherWay_steps, .inl (cy 1, 20, .inl y_stepsf1_16)), (h_otherWay_places, .inl (cy 1, 21, .inl y_placesf1_17)), (h_otherWay, .inr (9, [.ref h_otherWay_targets, .ref h_otherWay_weights, .ref h_otherWay_left, .ref h_otherWay_steps, .ref h_otherWay_places, .ref h_otherWay_arrivals, .int y_length1_19, .int y_fallCount1_20])), (h_otherWay_arrivals, .inl (cy 1, 21, .inl y_arrivalsf1_18)), (h_way, .inr (9, [.ref h_way_targets, .ref h_way_weights, .ref h_way_left, .ref h_way_steps, .ref h_way_places, .ref h_way_arrivals, .int y_length1_7, .int y_fallCount1_8])), (h_way_places, .inl (cy 1, 21, .inl y_placesf1_5)), (h_way_arrivals, .inl (cy 1, 21, .inl y_arrivalsf1_6))]) hP hD rfl
            have hP := hPD.1
            have hD := hPD.2
            refine lv_aload_n hx hb dX11_firstMeeting_63 rfl (lv_at hl 2 rfl) ?_
            refine r_get X kcX11 (ci := 10) rfl hP 4 rfl 6 (by decide) fX11_40 rfl dX11_firstMeeting_64 ?_
            refine lv_iload hx hb dX11_firstMeeting_67 (lv_at hl 0 rfl) ?_
            refine sl_Ic (rV_I (As := [.int i_33]) (rest := [.int r_36]) X hp_st (fun _ _ _ h => h) (sX10_placeAfter l dC dI cy h_otherWay h_otherWay_targets h_otherWay_weights h_otherWay_left h_otherWay_steps h_otherWay_places h_otherWay_arrivals y_length1_19 y_fallCount1_20 y_placesf1_17 y_arrivalsf1_18 i_33 k_22_4 k_22_2 k_22_3) kX10_placeAfter vX10_placeAfter mX11_263 hP hD hS hA [17, 16, 18] (by decide) rfl 0 (ci := 9) rfl rfl rfl hl rfl rfl (Nat.le_of_ble_eq_true rfl) dX11_firstMeeting_69 ⟨(Nat.le_of_ble_eq_true rfl), (Nat.le_of_ble_eq_true rfl)⟩ ⟨(Nat.le_of_ble_eq_true rfl), (Nat.le_of_ble_eq_true rfl)⟩) hP hD hS hA [17, 16, 18] [true, true, true, true, true, true, true, true, true, true, true, true, true, true, true, true, false, false, false, true, true, true] rfl rfl rfl (fun r_39 u_41 H locs k_40 hP hD hS => ?_)
            have hPD := vPD (ws' := [(h_way_targets, .inl (cy 1, 80, .inl y_targetsf1_1)), (h_way_weights, .inl (cy 1, 80, .inl y_weightsf1_2)), (h_way_left, .inl (cy 1, 20, .inl y_leftf1_3)), (h_way_steps, .inl (cy 1, 20, .inl y_stepsf1_4)), (h0, .inr (10, [.ref h_tape, .ref h_now, .ref h_trial, .ref h_kept, .ref h_images, .ref h_way, .ref h_otherWay, .ref h_flood, .ref h_cutSearch, .ref h_drySearch, .ref h_guess, .ref h_fraction, .ref h_told, .ref h_draft, .int h_keptCount, .int h_imageCount, .int h_trouble])), (h_now, .inr (6, [.ref h_now_ground, .ref h_now_at, .ref h_now_fell, .ref h_now_went, .int h_now_walkers])), (h_now_ground, .inr (4, [.int h_now_ground_wide, .int h_now_ground_deep, .int h_now_ground_count, .ref h_now_ground_sorts])), (h_now_ground_sorts, .inl (cy 1, 20, .inl h_now_ground_sortsf)), (h_now_at, .inl (cy 1, 4, .inl h_now_atf)), (h_told, .inr (7, [.ref h_told_ground, .int h_told_errs, .int h_told_slips, .int h_told_rows, .int h_told_unsureCount, .ref h_told_unsure, .int h_told_walkers, .ref h_told_names, .ref h_told_kinds, .ref h_told_starts, .ref h_told_goals, .int h_told_walks, .ref h_told_walkStarts, .ref h_told_walkSteps, .ref h_told_walkFell])), (h_told_kinds, .inl (cy 1, 4, .inl h_told_kindsf)), (h_told_goals, .inl (cy 1, 4, .inl h_told_goalsf)), (h_otherWay_targets, .inl (cy 1, 80, .inl y_targetsf1_13)), (h_otherWay_weights, .inl (cy 1, 80, .inl y_weightsf1_14)), (h_otherWay_left, .inl (cy 1, 20, .inl y_leftf1_15)), (h_otherWay_steps, .inl (cy 1, 20, .inl y_stepsf1_16)), (h_way, .inr (9, [.ref h_way_targets, .ref h_way_weights, .ref h_way_left, .ref h_way_steps, .ref h_way_places, .ref h_way_arrivals, .int y_length1_7, .int y_fallCount1_8])), (h_way_places, .inl (cy 1, 21, .inl y_placesf1_5)), (h_way_arrivals, .inl (cy 1, 21, .inl y_arrivalsf1_6)), (h_otherWay, .inr (9, [.ref h_otherWay_targets, .ref h_otherWay_weights, .ref h_otherWay_left, .ref h_otherWay_steps, .ref h_otherWay_places, .ref h_otherWay_arrivals, .int y_length1_19, .int y_fallCount1_20])), (h_otherWay_places, .inl (cy 1, 21, .inl y_placesf1_17)), (h_otherWay_arrivals, .inl (cy 1, 21, .inl y_arrivalsf1_18))]) hP hD rfl
            have hP := hPD.1
            have hD := hPD.2
            refine lv_icmp_ne (tgt := 78) hx hb dX11_firstMeeting_72 (by decide) (fun h_42 => ?_) (fun h_42 => ?_)
            · have h_42 : r_36.toInt ≠ r_39.toInt := c_ne h_42
              obtain ⟨x_43, ex_43⟩ : ∃ y : Int32, y = i_33 + 1 := ⟨_, rfl⟩
              have tx_43 : x_43.toInt = i_33.toInt + 1 := ti_add (A := i_33.toInt) (B := 1) ex_43 rfl rfl (by omega) (by omega)
              refine lv_iinc (v := x_43) (lv' := [(4, .int x_43), (3, .int x_31), (0, .ref h0), (1, .int p1), (2, .int p2)]) hx hb dX11_firstMeeting_78 hl (k := 0) rfl (by rw [ex_43]; rfl) (by decide) rfl (fun ls hl => ?_)
              refine lv_goto (tgt := 48) hx hb dX11_firstMeeting_81 (by decide) ?_
              exact ihlp_32 x_43 _ _ _ (by omega) (show 82 - x_43.toInt ≤ (nlp_32 : Int) by omega) (hP.sub [0, 1, 2, 3, 17, 4, 5, 6, 7, 8, 9, 10, 11, 12, 13, 14, 15, 20, 16, 18, 19, 21] rfl) (hD.sub [0, 1, 2, 3, 17, 4, 5, 6, 7, 8, 9, 10, 11, 12, 13, 14, 15, 20, 16, 18, 19, 21] (by decide +kernel) rfl) hS (lv_sub hl [0, 1, 2, 3, 4] rfl)
            · have h_42 : r_36.toInt = r_39.toInt := c_eq h_42
              refine lv_iload hx hb dX11_firstMeeting_75 (lv_at hl 0 rfl) ?_
              exact eI hQ X hr hlocks hP hD hS (y_targetsf1_1, y_weightsf1_2, y_leftf1_3, y_stepsf1_4, y_placesf1_5, y_arrivalsf1_6, y_length1_7, y_fallCount1_8, y_targetsf1_13, y_weightsf1_14, y_leftf1_15, y_stepsf1_16, y_placesf1_17, y_arrivalsf1_18, y_length1_19, y_fallCount1_20) [4, 5, 6, 7, 8, 16, 0, 1, 2, 3, 17, 18, 19, 12, 13, 14, 15, 20, 21, 9, 10, 11] (by decide +kernel) rfl rfl (show (rb y_targetsf1_1 80 (-1) 19) ∧ (rb y_placesf1_5 21 0 19) ∧ (rbk y_arrivalsf1_6 21 (-2) 4) ∧ (0 ≤ y_length1_7.toInt ∧ y_length1_7.toInt ≤ 20) ∧ (rb y_targetsf1_13 80 (-1) 19) ∧ (rb y_placesf1_17 21 0 19) ∧ (rbk y_arrivalsf1_18 21 (-2) 4) ∧ (0 ≤ y_length1_19.toInt ∧ y_length1_19.toInt ≤ 20) from ⟨k_10_1, k_10_2, k_10_3, k_10_4, k_22_1, k_22_2, k_22_3, k_22_4⟩) (Nat.le_of_ble_eq_true rfl) (Nat.le_of_ble_eq_true rfl) dX11_firstMeeting_77
      exact lp_32 82 0 _ _ _ (by decide) (show 82 - 0 ≤ ((82 : Nat) : Int) by omega) hP hD hS hl
    · have h_24 : r_21.toInt = 0 := c_eq h_24
      refine lv_bipush (v := -2) hx hb dX11_firstMeeting_24 (by decide) ?_
      exact eI hQ X hr hlocks hP hD hS (y_targetsf1_1, y_weightsf1_2, y_leftf1_3, y_stepsf1_4, y_placesf1_5, y_arrivalsf1_6, y_length1_7, y_fallCount1_8, y_targetsf1_13, y_weightsf1_14, y_leftf1_15, y_stepsf1_16, y_placesf1_17, y_arrivalsf1_18, y_length1_19, y_fallCount1_20) [7, 8, 9, 10, 11, 0, 1, 2, 3, 4, 5, 6, 15, 16, 17, 18, 19, 20, 21, 12, 13, 14] (by decide +kernel) rfl rfl (show (rb y_targetsf1_1 80 (-1) 19) ∧ (rb y_placesf1_5 21 0 19) ∧ (rbk y_arrivalsf1_6 21 (-2) 4) ∧ (0 ≤ y_length1_7.toInt ∧ y_length1_7.toInt ≤ 20) ∧ (rb y_targetsf1_13 80 (-1) 19) ∧ (rb y_placesf1_17 21 0 19) ∧ (rbk y_arrivalsf1_18 21 (-2) 4) ∧ (0 ≤ y_length1_19.toInt ∧ y_length1_19.toInt ≤ 20) from ⟨k_10_1, k_10_2, k_10_3, k_10_4, k_22_1, k_22_2, k_22_3, k_22_4⟩) (Nat.le_of_ble_eq_true rfl) (Nat.le_of_ble_eq_true rfl) dX11_firstMeeting_26
set_option maxHeartbeats 4000000 in
set_option maxRecDepth 100000 in
theorem sX11_wander (l : Launch) (dC : Nat → ClassId) (dI : Nat → Nat → Nat) (cy : Nat → ClassId) (h0 : Nat) (h_tape : Nat) (h_now : Nat) (h_trial : Nat) (h_kept : Nat) (h_images : Nat) (h_way : Nat) (h_otherWay : Nat) (h_flood : Nat) (h_cutSearch : Nat) (h_drySearch : Nat) (h_guess : Nat) (h_fraction : Nat) (h_told : Nat) (h_draft : Nat) (h_keptCount : Int32) (h_imageCount : Int32) (h_trouble : Int32) (h_now_ground : Nat) (h_now_at : Nat) (h_now_fell : Nat) (h_now_went : Nat) (h_now_walkers : Int32) (h_now_ground_wide : Int32) (h_now_ground_deep : Int32) (h_now_ground_count : Int32) (h_now_ground_sorts : Nat) (h_now_ground_sortsf : Nat → Int32) (h_now_atf : Nat → Int32) (h_now_fellf : Nat → Int32) (h_now_wentf : Nat → Int32) (h_trial_ground : Nat) (h_trial_at : Nat) (h_trial_fell : Nat) (h_trial_went : Nat) (h_trial_walkers : Int32) (h_trial_ground_wide : Int32) (h_trial_ground_deep : Int32) (h_trial_ground_count : Int32) (h_trial_ground_sorts : Nat) (h_trial_ground_sortsf : Nat → Int32) (h_trial_atf : Nat → Int32) (h_trial_fellf : Nat → Int32) (h_trial_wentf : Nat → Int32) (h_told_ground : Nat) (h_told_errs : Int32) (h_told_slips : Int32) (h_told_rows : Int32) (h_told_unsureCount : Int32) (h_told_unsure : Nat) (h_told_walkers : Int32) (h_told_names : Nat) (h_told_kinds : Nat) (h_told_starts : Nat) (h_told_goals : Nat) (h_told_walks : Int32) (h_told_walkStarts : Nat) (h_told_walkSteps : Nat) (h_told_walkFell : Nat) (h_told_kindsf : Nat → Int32) (h_told_goalsf : Nat → Int32) (p1 : Int32) (p2 : Int32) (p3 : Int32) (hh_keptCount : 0 ≤ h_keptCount.toInt ∧ h_keptCount.toInt ≤ 16) (hh_imageCount : 0 ≤ h_imageCount.toInt ∧ h_imageCount.toInt ≤ 3) (hh_now_walkers : 0 ≤ h_now_walkers.toInt ∧ h_now_walkers.toInt ≤ 4) (hh_now_ground_wide : 0 ≤ h_now_ground_wide.toInt ∧ h_now_ground_wide.toInt ≤ 5) (hh_now_ground_deep : 0 ≤ h_now_ground_deep.toInt ∧ h_now_ground_deep.toInt ≤ 4) (hh_now_ground_count : 0 ≤ h_now_ground_count.toInt ∧ h_now_ground_count.toInt ≤ 20) (hh_now_atf : rb h_now_atf 4 0 19) (hh_trial_walkers : 0 ≤ h_trial_walkers.toInt ∧ h_trial_walkers.toInt ≤ 4) (hh_trial_ground_wide : 0 ≤ h_trial_ground_wide.toInt ∧ h_trial_ground_wide.toInt ≤ 5) (hh_trial_ground_deep : 0 ≤ h_trial_ground_deep.toInt ∧ h_trial_ground_deep.toInt ≤ 4) (hh_trial_ground_count : 0 ≤ h_trial_ground_count.toInt ∧ h_trial_ground_count.toInt ≤ 20) (hh_trial_atf : rb h_trial_atf 4 0 19) (hh_told_rows : 0 ≤ h_told_rows.toInt ∧ h_told_rows.toInt ≤ 4) (hh_told_unsureCount : 0 ≤ h_told_unsureCount.toInt ∧ h_told_unsureCount.toInt ≤ 5) (hh_told_walkers : 0 ≤ h_told_walkers.toInt ∧ h_told_walkers.toInt ≤ 4) (hh_told_walks : 0 ≤ h_told_walks.toInt ∧ h_told_walks.toInt ≤ 6) (hp1 : 0 ≤ p1.toInt ∧ p1.toInt ≤ 3) (hp2 : 0 ≤ p2.toInt ∧ p2.toInt ≤ 65536) (hp3 : 0 ≤ p3.toInt ∧ p3.toInt ≤ 90) : ctI l dC dI cy hp yX11_wander cX11_wander 8 .int ({ frames := 3, cells := 0, slots := 0, locals := 82 } : Room) [.ref h0, .int p1, .int p2, .int p3] [(h0, .inr (10, [.ref h_tape, .ref h_now, .ref h_trial, .ref h_kept, .ref h_images, .ref h_way, .ref h_otherWay, .ref h_flood, .ref h_cutSearch, .ref h_drySearch, .ref h_guess, .ref h_fraction, .ref h_told, .ref h_draft, .int h_keptCount, .int h_imageCount, .int h_trouble])), (h_now, .inr (6, [.ref h_now_ground, .ref h_now_at, .ref h_now_fell, .ref h_now_went, .int h_now_walkers])), (h_now_ground, .inr (4, [.int h_now_ground_wide, .int h_now_ground_deep, .int h_now_ground_count, .ref h_now_ground_sorts])), (h_now_ground_sorts, .inl (cy 1, 20, .inl h_now_ground_sortsf)), (h_now_at, .inl (cy 1, 4, .inl h_now_atf)), (h_now_fell, .inl (cy 1, 4, .inl h_now_fellf)), (h_now_went, .inl (cy 1, 4, .inl h_now_wentf)), (h_trial, .inr (6, [.ref h_trial_ground, .ref h_trial_at, .ref h_trial_fell, .ref h_trial_went, .int h_trial_walkers])), (h_trial_ground, .inr (4, [.int h_trial_ground_wide, .int h_trial_ground_deep, .int h_trial_ground_count, .ref h_trial_ground_sorts])), (h_trial_ground_sorts, .inl (cy 1, 20, .inl h_trial_ground_sortsf)), (h_trial_at, .inl (cy 1, 4, .inl h_trial_atf)), (h_trial_fell, .inl (cy 1, 4, .inl h_trial_fellf)), (h_trial_went, .inl (cy 1, 4, .inl h_trial_wentf)), (h_told, .inr (7, [.ref h_told_ground, .int h_told_errs, .int h_told_slips, .int h_told_rows, .int h_told_unsureCount, .ref h_told_unsure, .int h_told_walkers, .ref h_told_names, .ref h_told_kinds, .ref h_told_starts, .ref h_told_goals, .int h_told_walks, .ref h_told_walkStarts, .ref h_told_walkSteps, .ref h_told_walkFell])), (h_told_kinds, .inl (cy 1, 4, .inl h_told_kindsf)), (h_told_goals, .inl (cy 1, 4, .inl h_told_goalsf))] (S := Int32 × Int32 × Int32 × (Nat → Int32) × (Nat → Int32) × (Nat → Int32) × (Nat → Int32) × Int32) (fun r u => (0 ≤ u.1.toInt ∧ u.1.toInt ≤ 5) ∧ (0 ≤ u.2.1.toInt ∧ u.2.1.toInt ≤ 4) ∧ (0 ≤ u.2.2.1.toInt ∧ u.2.2.1.toInt ≤ 20) ∧ (rb u.2.2.2.2.1 4 0 19) ∧ (0 ≤ u.2.2.2.2.2.2.2.toInt ∧ u.2.2.2.2.2.2.2.toInt ≤ 4) ∧ (wnP h_now_ground_wide.toInt (h_now_ground_wide.toInt * h_now_ground_deep.toInt) h_now_ground_sortsf h_told_kindsf h_told_goalsf h_now_atf h_now_fellf p1 p2.toInt p3.toInt r.toInt u.2.2.2.2.1 u.2.2.2.2.2.1)) (fun u => [(h0, .inr (10, [.ref h_tape, .ref h_now, .ref h_trial, .ref h_kept, .ref h_images, .ref h_way, .ref h_otherWay, .ref h_flood, .ref h_cutSearch, .ref h_drySearch, .ref h_guess, .ref h_fraction, .ref h_told, .ref h_draft, .int h_keptCount, .int h_imageCount, .int h_trouble])), (h_now, .inr (6, [.ref h_now_ground, .ref h_now_at, .ref h_now_fell, .ref h_now_went, .int h_now_walkers])), (h_now_ground, .inr (4, [.int h_now_ground_wide, .int h_now_ground_deep, .int h_now_ground_count, .ref h_now_ground_sorts])), (h_now_ground_sorts, .inl (cy 1, 20, .inl h_now_ground_sortsf)), (h_now_at, .inl (cy 1, 4, .inl h_now_atf)), (h_now_fell, .inl (cy 1, 4, .inl h_now_fellf)), (h_now_went, .inl (cy 1, 4, .inl h_now_wentf)), (h_trial, .inr (6, [.ref h_trial_ground, .ref h_trial_at, .ref h_trial_fell, .ref h_trial_went, .int u.2.2.2.2.2.2.2])), (h_trial_ground, .inr (4, [.int u.1, .int u.2.1, .int u.2.2.1, .ref h_trial_ground_sorts])), (h_trial_ground_sorts, .inl (cy 1, 20, .inl u.2.2.2.1)), (h_trial_at, .inl (cy 1, 4, .inl u.2.2.2.2.1)), (h_trial_fell, .inl (cy 1, 4, .inl u.2.2.2.2.2.1)), (h_trial_went, .inl (cy 1, 4, .inl u.2.2.2.2.2.2.1)), (h_told, .inr (7, [.ref h_told_ground, .int h_told_errs, .int h_told_slips, .int h_told_rows, .int h_told_unsureCount, .ref h_told_unsure, .int h_told_walkers, .ref h_told_names, .ref h_told_kinds, .ref h_told_starts, .ref h_told_goals, .int h_told_walks, .ref h_told_walkStarts, .ref h_told_walkSteps, .ref h_told_walkFell])), (h_told_kinds, .inl (cy 1, 4, .inl h_told_kindsf)), (h_told_goals, .inl (cy 1, 4, .inl h_told_goalsf))]) := by
  refine ctI.of (by decide +kernel) (Nat.le_of_ble_eq_true rfl) ?_
  intro p e s m args below meth c A ls Q hQ X hr hlocks hin hA hP hD hS hl
  have hx := X.1
  have hb := X.2.1
  have hK := X.2.2.2.2.2.1
  have hl : lv_has ls 8 [(0, .ref h0), (1, .int p1), (2, .int p2), (3, .int p3)] := hl
  refine lv_aload_n hx hb dX11_wander_0 rfl (lv_at hl 0 rfl) ?_
  refine r_get X kcX11 (ci := 10) rfl hP 0 rfl 2 (by decide) fX11_23 rfl dX11_wander_1 ?_
  refine lv_aload_n hx hb dX11_wander_4 rfl (lv_at hl 0 rfl) ?_
  refine r_get X kcX11 (ci := 10) rfl hP 0 rfl 1 (by decide) fX11_19 rfl dX11_wander_5 ?_
  refine sl_Vc (rV_V (As := [.ref h_now]) (rest := []) X hp_st (fun _ _ _ h => h) (sX6_take l dC dI cy h_trial h_trial_ground h_trial_at h_trial_fell h_trial_went h_trial_walkers h_trial_ground_wide h_trial_ground_deep h_trial_ground_count h_trial_ground_sorts h_trial_ground_sortsf h_trial_atf h_trial_fellf h_trial_wentf h_now h_now_ground h_now_at h_now_fell h_now_went h_now_walkers h_now_ground_wide h_now_ground_deep h_now_ground_count h_now_ground_sorts h_now_ground_sortsf h_now_atf h_now_fellf h_now_wentf hh_trial_walkers hh_trial_ground_wide hh_trial_ground_deep hh_trial_ground_count hh_trial_atf hh_now_walkers hh_now_ground_wide hh_now_ground_deep hh_now_ground_count hh_now_atf) kX6_take vX6_take mX11_240 hP hD hS hA [7, 8, 9, 10, 11, 12, 1, 2, 3, 4, 5, 6] (by decide +kernel) rfl 0 (ci := 6) rfl rfl rfl hl rfl rfl (Nat.le_of_ble_eq_true rfl) dX11_wander_8 ⟨(Nat.le_of_ble_eq_true rfl), (Nat.le_of_ble_eq_true rfl)⟩ ⟨(Nat.le_of_ble_eq_true rfl), (Nat.le_of_ble_eq_true rfl)⟩) hP hD hS hA [7, 8, 9, 10, 11, 12, 1, 2, 3, 4, 5, 6] [true, false, false, false, false, false, false, false, false, false, false, false, false, true, true, true] rfl rfl rfl (fun u_11 H locs k_10 hP hD hS => ?_)
  obtain ⟨n_ground_wide1_1, n_ground_deep1_2, n_ground_count1_3, n_ground_sortsf1_4, n_atf1_5, n_fellf1_6, n_wentf1_7, n_walkers1_8⟩ := u_11
  have k_10 : (0 ≤ n_ground_wide1_1.toInt ∧ n_ground_wide1_1.toInt ≤ 5) ∧ (0 ≤ n_ground_deep1_2.toInt ∧ n_ground_deep1_2.toInt ≤ 4) ∧ (0 ≤ n_ground_count1_3.toInt ∧ n_ground_count1_3.toInt ≤ 20) ∧ (rb n_atf1_5 4 0 19) ∧ (0 ≤ n_walkers1_8.toInt ∧ n_walkers1_8.toInt ≤ 4) ∧ (nwC h_now_ground_wide h_now_ground_deep h_now_ground_sortsf h_now_atf h_now_fellf h_now_wentf h_now_walkers n_ground_wide1_1 n_ground_deep1_2 n_ground_count1_3 n_ground_sortsf1_4 n_atf1_5 n_fellf1_6 n_wentf1_7 n_walkers1_8) := k_10
  obtain ⟨k_10_0, k_10_1, k_10_2, k_10_3, k_10_4, k_10_5⟩ := k_10
  have hPD := vPD (ws' := [(h0, .inr (10, [.ref h_tape, .ref h_now, .ref h_trial, .ref h_kept, .ref h_images, .ref h_way, .ref h_otherWay, .ref h_flood, .ref h_cutSearch, .ref h_drySearch, .ref h_guess, .ref h_fraction, .ref h_told, .ref h_draft, .int h_keptCount, .int h_imageCount, .int h_trouble])), (h_told, .inr (7, [.ref h_told_ground, .int h_told_errs, .int h_told_slips, .int h_told_rows, .int h_told_unsureCount, .ref h_told_unsure, .int h_told_walkers, .ref h_told_names, .ref h_told_kinds, .ref h_told_starts, .ref h_told_goals, .int h_told_walks, .ref h_told_walkStarts, .ref h_told_walkSteps, .ref h_told_walkFell])), (h_told_kinds, .inl (cy 1, 4, .inl h_told_kindsf)), (h_told_goals, .inl (cy 1, 4, .inl h_told_goalsf)), (h_trial, .inr (6, [.ref h_trial_ground, .ref h_trial_at, .ref h_trial_fell, .ref h_trial_went, .int n_walkers1_8])), (h_trial_ground, .inr (4, [.int n_ground_wide1_1, .int n_ground_deep1_2, .int n_ground_count1_3, .ref h_trial_ground_sorts])), (h_trial_ground_sorts, .inl (cy 1, 20, .inl n_ground_sortsf1_4)), (h_trial_at, .inl (cy 1, 4, .inl n_atf1_5)), (h_trial_fell, .inl (cy 1, 4, .inl n_fellf1_6)), (h_trial_went, .inl (cy 1, 4, .inl n_wentf1_7)), (h_now, .inr (6, [.ref h_now_ground, .ref h_now_at, .ref h_now_fell, .ref h_now_went, .int h_now_walkers])), (h_now_ground, .inr (4, [.int h_now_ground_wide, .int h_now_ground_deep, .int h_now_ground_count, .ref h_now_ground_sorts])), (h_now_ground_sorts, .inl (cy 1, 20, .inl h_now_ground_sortsf)), (h_now_at, .inl (cy 1, 4, .inl h_now_atf)), (h_now_fell, .inl (cy 1, 4, .inl h_now_fellf)), (h_now_went, .inl (cy 1, 4, .inl h_now_wentf))]) hP hD rfl
  have hP := hPD.1
  have hD := hPD.2
  refine lv_aload_n hx hb dX11_wander_11 rfl (lv_at hl 0 rfl) ?_
  refine r_get X kcX11 (ci := 10) rfl hP 0 rfl 12 (by decide) fX11_81 rfl dX11_wander_12 ?_
  refine r_get X kcX7 (ci := 7) rfl hP 1 rfl 10 (by decide) fX11_169 rfl dX11_wander_15 ?_
  refine lv_iload_n hx hb dX11_wander_18 rfl (lv_at hl 1 rfl) ?_
  refine va_iald (D := (dC, dI)) (cl := vwCl) hx hb hK hP 3 1 rfl rfl (i := p1) (vin (by omega) (by omega)) dX11_wander_19 ?_
  refine lv_topi (fun x_12 ex_12 => ?_)
  refine lv_istore (lv' := [(4, .int x_12), (0, .ref h0), (1, .int p1), (2, .int p2), (3, .int p3)]) hx hb dX11_wander_20 hl (by decide) rfl (fun ls hl => ?_)
  refine lv_aload_n hx hb dX11_wander_22 rfl (lv_at hl 1 rfl) ?_
  refine r_get X kcX11 (ci := 10) rfl hP 0 rfl 2 (by decide) fX11_23 rfl dX11_wander_23 ?_
  refine r_get X kcX6 (ci := 6) rfl hP 4 rfl 1 (by decide) fX11_166 rfl dX11_wander_26 ?_
  refine lv_iload_n hx hb dX11_wander_29 rfl (lv_at hl 2 rfl) ?_
  refine va_iald (D := (dC, dI)) (cl := vwCl) hx hb hK hP 7 1 rfl rfl (i := p1) (vin (by omega) (by omega)) dX11_wander_30 ?_
  refine lv_topi (fun x_13 ex_13 => ?_)
  have bx_13 : 0 ≤ x_13.toInt ∧ x_13.toInt ≤ 19 := rb_at k_10_3 ex_13 (by omega) (by omega)
  refine lv_iload hx hb dX11_wander_31 (lv_at hl 0 rfl) ?_
  refine lv_icmp_ne (tgt := 40) hx hb dX11_wander_33 (by decide) (fun h_14 => ?_) (fun h_14 => ?_)
  · have h_14 : x_13.toInt ≠ x_12.toInt := c_ne h_14
    refine lv_bipush (v := -2) hx hb dX11_wander_40 (by decide) ?_
    refine lv_istore (lv' := [(5, .int (-2)), (4, .int x_12), (0, .ref h0), (1, .int p1), (2, .int p2), (3, .int p3)]) hx hb dX11_wander_42 hl (by decide) rfl (fun ls hl => ?_)
    refine lv_iload_n hx hb dX11_wander_44 rfl (lv_at hl 4 rfl) ?_
    refine lv_istore (lv' := [(6, .int p2), (5, .int (-2)), (4, .int x_12), (0, .ref h0), (1, .int p1), (2, .int p2), (3, .int p3)]) hx hb dX11_wander_45 hl (by decide) rfl (fun ls hl => ?_)
    refine lv_iconst (v := 1) hx hb dX11_wander_47 (by decide) ?_
    refine lv_istore (lv' := [(7, .int 1), (6, .int p2), (5, .int (-2)), (4, .int x_12), (0, .ref h0), (1, .int p1), (2, .int p2), (3, .int p3)]) hx hb dX11_wander_48 hl (by decide) rfl (fun ls hl => ?_)
    have lp_15 : ∀ (nlp_15 : Nat) (i_16 : Int32) (i_18 : Int32) (i_20 : Int32) (f_21 : Nat → Int32) (f_23 : Nat → Int32) (f_24 : Nat → Int32) (H : Heap) (locs : List Loc) (ls : Array Slot), (1 ≤ i_16.toInt ∧ i_16.toInt ≤ 91) → (0 ≤ i_18.toInt ∧ i_18.toInt ≤ 65536) → (rb f_21 4 0 19) → (rwI n_ground_wide1_1.toInt n_ground_count1_3.toInt n_ground_sortsf1_4 (h_told_kindsf p1.toNatClampNeg).toInt (h_told_goalsf p1.toNatClampNeg).toInt p2.toInt (n_atf1_5 p1.toNatClampNeg).toInt (i_16.toInt - 1) i_18.toInt i_20.toInt p1 f_21 f_23 n_fellf1_6) → (i_16.toInt ≤ p3.toInt + 1) → (92 - i_16.toInt ≤ (nlp_15 : Int)) → va_P (dC, dI) vwCl [(h0, .inr (10, [.ref h_tape, .ref h_now, .ref h_trial, .ref h_kept, .ref h_images, .ref h_way, .ref h_otherWay, .ref h_flood, .ref h_cutSearch, .ref h_drySearch, .ref h_guess, .ref h_fraction, .ref h_told, .ref h_draft, .int h_keptCount, .int h_imageCount, .int h_trouble])), (h_told, .inr (7, [.ref h_told_ground, .int h_told_errs, .int h_told_slips, .int h_told_rows, .int h_told_unsureCount, .ref h_told_unsure, .int h_told_walkers, .ref h_told_names, .ref h_told_kinds, .ref h_told_starts, .ref h_told_goals, .int h_told_walks, .ref h_told_walkStarts, .ref h_told_walkSteps, .ref h_told_walkFell])), (h_told_kinds, .inl (cy 1, 4, .inl h_told_kindsf)), (h_told_goals, .inl (cy 1, 4, .inl h_told_goalsf)), (h_trial, .inr (6, [.ref h_trial_ground, .ref h_trial_at, .ref h_trial_fell, .ref h_trial_went, .int n_walkers1_8])), (h_trial_ground, .inr (4, [.int n_ground_wide1_1, .int n_ground_deep1_2, .int n_ground_count1_3, .ref h_trial_ground_sorts])), (h_trial_ground_sorts, .inl (cy 1, 20, .inl n_ground_sortsf1_4)), (h_trial_at, .inl (cy 1, 4, .inl f_21)), (h_trial_fell, .inl (cy 1, 4, .inl f_23)), (h_trial_went, .inl (cy 1, 4, .inl f_24)), (h_now, .inr (6, [.ref h_now_ground, .ref h_now_at, .ref h_now_fell, .ref h_now_went, .int h_now_walkers])), (h_now_ground, .inr (4, [.int h_now_ground_wide, .int h_now_ground_deep, .int h_now_ground_count, .ref h_now_ground_sorts])), (h_now_ground_sorts, .inl (cy 1, 20, .inl h_now_ground_sortsf)), (h_now_at, .inl (cy 1, 4, .inl h_now_atf)), (h_now_fell, .inl (cy 1, 4, .inl h_now_fellf)), (h_now_went, .inl (cy 1, 4, .inl h_now_wentf))] H → va_D A [(h0, .inr (10, [.ref h_tape, .ref h_now, .ref h_trial, .ref h_kept, .ref h_images, .ref h_way, .ref h_otherWay, .ref h_flood, .ref h_cutSearch, .ref h_drySearch, .ref h_guess, .ref h_fraction, .ref h_told, .ref h_draft, .int h_keptCount, .int h_imageCount, .int h_trouble])), (h_told, .inr (7, [.ref h_told_ground, .int h_told_errs, .int h_told_slips, .int h_told_rows, .int h_told_unsureCount, .ref h_told_unsure, .int h_told_walkers, .ref h_told_names, .ref h_told_kinds, .ref h_told_starts, .ref h_told_goals, .int h_told_walks, .ref h_told_walkStarts, .ref h_told_walkSteps, .ref h_told_walkFell])), (h_told_kinds, .inl (cy 1, 4, .inl h_told_kindsf)), (h_told_goals, .inl (cy 1, 4, .inl h_told_goalsf)), (h_trial, .inr (6, [.ref h_trial_ground, .ref h_trial_at, .ref h_trial_fell, .ref h_trial_went, .int n_walkers1_8])), (h_trial_ground, .inr (4, [.int n_ground_wide1_1, .int n_ground_deep1_2, .int n_ground_count1_3, .ref h_trial_ground_sorts])), (h_trial_ground_sorts, .inl (cy 1, 20, .inl n_ground_sortsf1_4)), (h_trial_at, .inl (cy 1, 4, .inl f_21)), (h_trial_fell, .inl (cy 1, 4, .inl f_23)), (h_trial_went, .inl (cy 1, 4, .inl f_24)), (h_now, .inr (6, [.ref h_now_ground, .ref h_now_at, .ref h_now_fell, .ref h_now_went, .int h_now_walkers])), (h_now_ground, .inr (4, [.int h_now_ground_wide, .int h_now_ground_deep, .int h_now_ground_count, .ref h_now_ground_sorts])), (h_now_ground_sorts, .inl (cy 1, 20, .inl h_now_ground_sortsf)), (h_now_at, .inl (cy 1, 4, .inl h_now_atf)), (h_now_fell, .inl (cy 1, 4, .inl h_now_fellf)), (h_now_went, .inl (cy 1, 4, .inl h_now_wentf))] → va_S A s.heap H locs → lv_has ls 8 [(7, .int i_16), (6, .int i_18), (5, .int i_20), (4, .int x_12), (0, .ref h0), (1, .int p1), (2, .int p2), (3, .int p3)] → W p l e ({ frames := 3, cells := 0, slots := 0, locals := 82 } : Room) s m args below meth c H locs 0 0 Q (F0 m 50 ls []) := by
      intro nlp_15
      induction nlp_15 with
      | zero =>
        intro i_16 i_18 i_20 f_21 f_23 f_24 H locs ls b_17 b_19 b_22 b_25 b_26 hmlp_15 hP hD hS hl
        exfalso
        have di_16 := ti_bd i_16
        have di_18 := ti_bd i_18
        have di_20 := ti_bd i_20
        omega
      | succ nlp_15 ihlp_15 =>
        intro i_16 i_18 i_20 f_21 f_23 f_24 H locs ls b_17 b_19 b_22 b_25 b_26 hmlp_15 hP hD hS hl
        refine lv_iload hx hb dX11_wander_50 (lv_at hl 0 rfl) ?_
        refine lv_iload_n hx hb dX11_wander_52 rfl (lv_at hl 7 rfl) ?_
        refine lv_icmp_gt (tgt := 122) hx hb dX11_wander_53 (by decide) (fun h_27 => ?_) (fun h_27 => ?_)
        · have h_27 : p3.toInt < i_16.toInt := c_lt h_27
          refine lv_iload hx hb dX11_wander_122 (lv_at hl 2 rfl) ?_
          exact eI hQ X hr hlocks hP hD hS (n_ground_wide1_1, n_ground_deep1_2, n_ground_count1_3, n_ground_sortsf1_4, f_21, f_23, f_24, n_walkers1_8) [0, 10, 11, 12, 13, 14, 15, 4, 5, 6, 7, 8, 9, 1, 2, 3] (by decide +kernel) rfl rfl (show (0 ≤ n_ground_wide1_1.toInt ∧ n_ground_wide1_1.toInt ≤ 5) ∧ (0 ≤ n_ground_deep1_2.toInt ∧ n_ground_deep1_2.toInt ≤ 4) ∧ (0 ≤ n_ground_count1_3.toInt ∧ n_ground_count1_3.toInt ≤ 20) ∧ (rb f_21 4 0 19) ∧ (0 ≤ n_walkers1_8.toInt ∧ n_walkers1_8.toInt ≤ 4) ∧ (wnP h_now_ground_wide.toInt (h_now_ground_wide.toInt * h_now_ground_deep.toInt) h_now_ground_sortsf h_told_kindsf h_told_goalsf h_now_atf h_now_fellf p1 p2.toInt p3.toInt i_20.toInt f_21 f_23) from ⟨k_10_0, k_10_1, k_10_2, b_22, k_10_4, (wnP_of k_10_5 b_25 (by omega) (by omega) (by omega) (by omega) rfl rfl)⟩) (Nat.le_of_ble_eq_true rfl) (Nat.le_of_ble_eq_true rfl) dX11_wander_124
        · have h_27 : i_16.toInt ≤ p3.toInt := c_nlt h_27
          refine lv_bipush (v := 75) hx hb dX11_wander_56 (by decide) ?_
          refine lv_iload hx hb dX11_wander_58 (lv_at hl 1 rfl) ?_
          refine lv_imul hx hb dX11_wander_60 ?_
          refine lv_topi (fun x_28 ex_28 => ?_)
          have tx_28 : x_28.toInt = 75 * i_18.toInt := ti_mulk (A := 75) (B := i_18.toInt) ex_28 rfl rfl (by omega) (by omega)
          refine lv_bipush (v := 74) hx hb dX11_wander_61 (by decide) ?_
          refine lv_iadd hx hb dX11_wander_63 ?_
          refine lv_topi (fun x_29 ex_29 => ?_)
          have tx_29 : x_29.toInt = x_28.toInt + 74 := ti_add (A := x_28.toInt) (B := 74) ex_29 rfl rfl (by omega) (by omega)
          refine lv_ldcw (v := 65537) hx hb X.2.2.2.1 (X.2.2.2.2.1 _ w_1187) dX11_wander_64 ?_
          refine lv_irem hx hb dX11_wander_67 (by decide) ?_
          refine lv_topi (fun x_30 ex_30 => ?_)
          have tx_30 : 0 ≤ x_30.toInt ∧ x_30.toInt < 65537 ∧ x_30.toInt ≤ x_29.toInt ∧ x_30.toInt = x_29.toInt % 65537 := ti_rem ex_30 (by omega) (by decide)
          refine lv_istore (lv' := [(6, .int x_30), (7, .int i_16), (5, .int i_20), (4, .int x_12), (0, .ref h0), (1, .int p1), (2, .int p2), (3, .int p3)]) hx hb dX11_wander_68 hl (by decide) rfl (fun ls hl => ?_)
          refine lv_aload_n hx hb dX11_wander_70 rfl (lv_at hl 4 rfl) ?_
          refine r_get X kcX11 (ci := 10) rfl hP 0 rfl 2 (by decide) fX11_23 rfl dX11_wander_71 ?_
          refine lv_iload_n hx hb dX11_wander_74 rfl (lv_at hl 5 rfl) ?_
          refine lv_aload_n hx hb dX11_wander_75 rfl (lv_at hl 4 rfl) ?_
          refine r_get X kcX11 (ci := 10) rfl hP 0 rfl 12 (by decide) fX11_81 rfl dX11_wander_76 ?_
          refine r_get X kcX7 (ci := 7) rfl hP 1 rfl 8 (by decide) fX11_162 rfl dX11_wander_79 ?_
          refine lv_iload_n hx hb dX11_wander_82 rfl (lv_at hl 5 rfl) ?_
          refine va_iald (D := (dC, dI)) (cl := vwCl) hx hb hK hP 2 1 rfl rfl (i := p1) (vin (by omega) (by omega)) dX11_wander_83 ?_
          refine lv_topi (fun x_31 ex_31 => ?_)
          refine lv_iload hx hb dX11_wander_84 (lv_at hl 0 rfl) ?_
          refine lv_iconst (v := 4) hx hb dX11_wander_86 (by decide) ?_
          refine lv_irem hx hb dX11_wander_87 (by decide) ?_
          refine lv_topi (fun x_32 ex_32 => ?_)
          have tx_32 : 0 ≤ x_32.toInt ∧ x_32.toInt < 4 ∧ x_32.toInt ≤ x_30.toInt ∧ x_32.toInt = x_30.toInt % 4 := ti_rem ex_32 (by omega) (by decide)
          refine sl_Vc (rV_V (As := [.int p1, .int x_31, .int x_32]) (rest := []) X hp_st (fun _ _ _ h => h) (sX6_go l dC dI cy h_trial h_trial_ground h_trial_at h_trial_fell h_trial_went n_walkers1_8 n_ground_wide1_1 n_ground_deep1_2 n_ground_count1_3 h_trial_ground_sorts n_ground_sortsf1_4 f_21 f_23 f_24 p1 x_31 x_32 k_10_4 k_10_0 k_10_1 k_10_2 b_22 hp1) kX6_go vX6_go mX11_347 hP hD hS hA [4, 5, 6, 7, 8, 9] (by decide) rfl 0 (ci := 6) rfl rfl rfl hl rfl rfl (Nat.le_of_ble_eq_true rfl) dX11_wander_88 ⟨(Nat.le_of_ble_eq_true rfl), (Nat.le_of_ble_eq_true rfl)⟩ ⟨(Nat.le_of_ble_eq_true rfl), (Nat.le_of_ble_eq_true rfl)⟩) hP hD hS hA [4, 5, 6, 7, 8, 9] [true, true, true, true, false, false, false, false, false, false, true, true, true, true, true, true] rfl rfl rfl (fun u_38 H locs k_37 hP hD hS => ?_)
          obtain ⟨n_atf1_33, n_fellf1_34, n_wentf1_35⟩ := u_38
          have k_37 : (rb n_atf1_33 4 0 19) ∧ (goP n_ground_wide1_1.toInt n_ground_count1_3.toInt n_ground_sortsf1_4 f_21 f_23 f_24 p1 x_31.toInt x_32.toInt n_atf1_33 n_fellf1_34 n_wentf1_35) := k_37
          obtain ⟨k_37_0, k_37_1⟩ := k_37
          have hPD := vPD (ws' := [(h0, .inr (10, [.ref h_tape, .ref h_now, .ref h_trial, .ref h_kept, .ref h_images, .ref h_way, .ref h_otherWay, .ref h_flood, .ref h_cutSearch, .ref h_drySearch, .ref h_guess, .ref h_fraction, .ref h_told, .ref h_draft, .int h_keptCount, .int h_imageCount, .int h_trouble])), (h_told, .inr (7, [.ref h_told_ground, .int h_told_errs, .int h_told_slips, .int h_told_rows, .int h_told_unsureCount, .ref h_told_unsure, .int h_told_walkers, .ref h_told_names, .ref h_told_kinds, .ref h_told_starts, .ref h_told_goals, .int h_told_walks, .ref h_told_walkStarts, .ref h_told_walkSteps, .ref h_told_walkFell])), (h_told_kinds, .inl (cy 1, 4, .inl h_told_kindsf)), (h_told_goals, .inl (cy 1, 4, .inl h_told_goalsf)), (h_now, .inr (6, [.ref h_now_ground, .ref h_now_at, .ref h_now_fell, .ref h_now_went, .int h_now_walkers])), (h_now_ground, .inr (4, [.int h_now_ground_wide, .int h_now_ground_deep, .int h_now_ground_count, .ref h_now_ground_sorts])), (h_now_ground_sorts, .inl (cy 1, 20, .inl h_now_ground_sortsf)), (h_now_at, .inl (cy 1, 4, .inl h_now_atf)), (h_now_fell, .inl (cy 1, 4, .inl h_now_fellf)), (h_now_went, .inl (cy 1, 4, .inl h_now_wentf)), (h_trial, .inr (6, [.ref h_trial_ground, .ref h_trial_at, .ref h_trial_fell, .ref h_trial_went, .int n_walkers1_8])), (h_trial_ground, .inr (4, [.int n_ground_wide1_1, .int n_ground_deep1_2, .int n_ground_count1_3, .ref h_trial_ground_sorts])), (h_trial_ground_sorts, .inl (cy 1, 20, .inl n_ground_sortsf1_4)), (h_trial_at, .inl (cy 1, 4, .inl n_atf1_33)), (h_trial_fell, .inl (cy 1, 4, .inl n_fellf1_34)), (h_trial_went, .inl (cy 1, 4, .inl n_wentf1_35))]) hP hD rfl
          have hP := hPD.1
          have hD := hPD.2
          refine lv_iload hx hb dX11_wander_91 (lv_at hl 2 rfl) ?_
          refine lv_bipush (v := -2) hx hb dX11_wander_93 (by decide) ?_
          refine lv_icmp_ne (tgt := 116) hx hb dX11_wander_95 (by decide) (fun h_39 => ?_) (fun h_39 => ?_)
          · have h_39 : i_20.toInt ≠ (-2) := c_ne h_39
            obtain ⟨x_40, ex_40⟩ : ∃ y : Int32, y = i_16 + 1 := ⟨_, rfl⟩
            have tx_40 : x_40.toInt = i_16.toInt + 1 := ti_add (A := i_16.toInt) (B := 1) ex_40 rfl rfl (by omega) (by omega)
            refine lv_iinc (v := x_40) (lv' := [(7, .int x_40), (6, .int x_30), (5, .int i_20), (4, .int x_12), (0, .ref h0), (1, .int p1), (2, .int p2), (3, .int p3)]) hx hb dX11_wander_116 hl (k := 1) rfl (by rw [ex_40]; rfl) (by decide) rfl (fun ls hl => ?_)
            refine lv_goto (tgt := 50) hx hb dX11_wander_119 (by decide) ?_
            exact ihlp_15 x_40 x_30 i_20 n_atf1_33 n_fellf1_34 n_wentf1_35 _ _ _ (by omega) (by omega) k_37_0 (show rwI n_ground_wide1_1.toInt n_ground_count1_3.toInt n_ground_sortsf1_4 (h_told_kindsf p1.toNatClampNeg).toInt (h_told_goalsf p1.toNatClampNeg).toInt p2.toInt (n_atf1_5 p1.toNatClampNeg).toInt (x_40.toInt - 1) x_30.toInt i_20.toInt p1 n_atf1_33 n_fellf1_34 n_fellf1_6 from (rwI_up (m := i_16.toInt - 1) (st := x_32.toInt) b_25 (by omega) (by omega) (by omega) (by rw [← ex_31]; exact k_37_1) (tgZ_bd (by omega)) (by have qx_12 : (h_told_goalsf p1.toNatClampNeg).toInt = x_12.toInt := (by rw [ex_12]); omega) (by omega))) (show x_40.toInt ≤ p3.toInt + 1 by omega) (show 92 - x_40.toInt ≤ (nlp_15 : Int) by omega) (hP.sub [0, 1, 2, 3, 10, 11, 12, 13, 14, 15, 4, 5, 6, 7, 8, 9] rfl) (hD.sub [0, 1, 2, 3, 10, 11, 12, 13, 14, 15, 4, 5, 6, 7, 8, 9] (by decide +kernel) rfl) hS (lv_sub hl [0, 1, 2, 3, 4, 5, 6, 7] rfl)
          · have h_39 : i_20.toInt = (-2) := c_eq h_39
            refine lv_aload_n hx hb dX11_wander_98 rfl (lv_at hl 4 rfl) ?_
            refine r_get X kcX11 (ci := 10) rfl hP 0 rfl 2 (by decide) fX11_23 rfl dX11_wander_99 ?_
            refine r_get X kcX6 (ci := 6) rfl hP 10 rfl 1 (by decide) fX11_166 rfl dX11_wander_102 ?_
            refine lv_iload_n hx hb dX11_wander_105 rfl (lv_at hl 5 rfl) ?_
            refine va_iald (D := (dC, dI)) (cl := vwCl) hx hb hK hP 13 1 rfl rfl (i := p1) (vin (by omega) (by omega)) dX11_wander_106 ?_
            refine lv_topi (fun x_41 ex_41 => ?_)
            have bx_41 : 0 ≤ x_41.toInt ∧ x_41.toInt ≤ 19 := rb_at k_37_0 ex_41 (by omega) (by omega)
            refine lv_iload hx hb dX11_wander_107 (lv_at hl 3 rfl) ?_
            refine lv_icmp_ne (tgt := 116) hx hb dX11_wander_109 (by decide) (fun h_42 => ?_) (fun h_42 => ?_)
            · have h_42 : x_41.toInt ≠ x_12.toInt := c_ne h_42
              obtain ⟨x_43, ex_43⟩ : ∃ y : Int32, y = i_16 + 1 := ⟨_, rfl⟩
              have tx_43 : x_43.toInt = i_16.toInt + 1 := ti_add (A := i_16.toInt) (B := 1) ex_43 rfl rfl (by omega) (by omega)
              refine lv_iinc (v := x_43) (lv' := [(7, .int x_43), (6, .int x_30), (5, .int i_20), (4, .int x_12), (0, .ref h0), (1, .int p1), (2, .int p2), (3, .int p3)]) hx hb dX11_wander_116 hl (k := 1) rfl (by rw [ex_43]; rfl) (by decide) rfl (fun ls hl => ?_)
              refine lv_goto (tgt := 50) hx hb dX11_wander_119 (by decide) ?_
              exact ihlp_15 x_43 x_30 i_20 n_atf1_33 n_fellf1_34 n_wentf1_35 _ _ _ (by omega) (by omega) k_37_0 (show rwI n_ground_wide1_1.toInt n_ground_count1_3.toInt n_ground_sortsf1_4 (h_told_kindsf p1.toNatClampNeg).toInt (h_told_goalsf p1.toNatClampNeg).toInt p2.toInt (n_atf1_5 p1.toNatClampNeg).toInt (x_43.toInt - 1) x_30.toInt i_20.toInt p1 n_atf1_33 n_fellf1_34 n_fellf1_6 from (rwI_up (m := i_16.toInt - 1) (st := x_32.toInt) b_25 (by omega) (by omega) (by omega) (by rw [← ex_31]; exact k_37_1) (tgZ_bd (by omega)) (by have qx_41 : (n_atf1_33 p1.toNatClampNeg).toInt = x_41.toInt := (by rw [ex_41]); have qx_12 : (h_told_goalsf p1.toNatClampNeg).toInt = x_12.toInt := (by rw [ex_12]); omega) (by omega))) (show x_43.toInt ≤ p3.toInt + 1 by omega) (show 92 - x_43.toInt ≤ (nlp_15 : Int) by omega) (hP.sub [0, 1, 2, 3, 10, 11, 12, 13, 14, 15, 4, 5, 6, 7, 8, 9] rfl) (hD.sub [0, 1, 2, 3, 10, 11, 12, 13, 14, 15, 4, 5, 6, 7, 8, 9] (by decide +kernel) rfl) hS (lv_sub hl [0, 1, 2, 3, 4, 5, 6, 7] rfl)
            · have h_42 : x_41.toInt = x_12.toInt := c_eq h_42
              refine lv_iload hx hb dX11_wander_112 (lv_at hl 1 rfl) ?_
              refine lv_istore (lv' := [(5, .int i_16), (6, .int x_30), (7, .int i_16), (4, .int x_12), (0, .ref h0), (1, .int p1), (2, .int p2), (3, .int p3)]) hx hb dX11_wander_114 hl (by decide) rfl (fun ls hl => ?_)
              obtain ⟨x_44, ex_44⟩ : ∃ y : Int32, y = i_16 + 1 := ⟨_, rfl⟩
              have tx_44 : x_44.toInt = i_16.toInt + 1 := ti_add (A := i_16.toInt) (B := 1) ex_44 rfl rfl (by omega) (by omega)
              refine lv_iinc (v := x_44) (lv' := [(7, .int x_44), (5, .int i_16), (6, .int x_30), (4, .int x_12), (0, .ref h0), (1, .int p1), (2, .int p2), (3, .int p3)]) hx hb dX11_wander_116 hl (k := 2) rfl (by rw [ex_44]; rfl) (by decide) rfl (fun ls hl => ?_)
              refine lv_goto (tgt := 50) hx hb dX11_wander_119 (by decide) ?_
              exact ihlp_15 x_44 x_30 i_16 n_atf1_33 n_fellf1_34 n_wentf1_35 _ _ _ (by omega) (by omega) k_37_0 (show rwI n_ground_wide1_1.toInt n_ground_count1_3.toInt n_ground_sortsf1_4 (h_told_kindsf p1.toNatClampNeg).toInt (h_told_goalsf p1.toNatClampNeg).toInt p2.toInt (n_atf1_5 p1.toNatClampNeg).toInt (x_44.toInt - 1) x_30.toInt i_16.toInt p1 n_atf1_33 n_fellf1_34 n_fellf1_6 from (rwI_up (m := i_16.toInt - 1) (st := x_32.toInt) b_25 (by omega) (by omega) (by omega) (by rw [← ex_31]; exact k_37_1) (tgZ_bd (by omega)) (by have qx_41 : (n_atf1_33 p1.toNatClampNeg).toInt = x_41.toInt := (by rw [ex_41]); have qx_12 : (h_told_goalsf p1.toNatClampNeg).toInt = x_12.toInt := (by rw [ex_12]); omega) (by omega))) (show x_44.toInt ≤ p3.toInt + 1 by omega) (show 92 - x_44.toInt ≤ (nlp_15 : Int) by omega) (hP.sub [0, 1, 2, 3, 10, 11, 12, 13, 14, 15, 4, 5, 6, 7, 8, 9] rfl) (hD.sub [0, 1, 2, 3, 10, 11, 12, 13, 14, 15, 4, 5, 6, 7, 8, 9] (by decide +kernel) rfl) hS (lv_sub hl [0, 2, 1, 3, 4, 5, 6, 7] rfl)
    exact lp_15 92 1 p2 (-2) n_atf1_5 n_fellf1_6 n_wentf1_7 _ _ _ (by decide) (by omega) k_10_3 (show rwI n_ground_wide1_1.toInt n_ground_count1_3.toInt n_ground_sortsf1_4 (h_told_kindsf p1.toNatClampNeg).toInt (h_told_goalsf p1.toNatClampNeg).toInt p2.toInt (n_atf1_5 p1.toNatClampNeg).toInt (1 - 1) p2.toInt (-2) p1 n_atf1_5 n_fellf1_6 n_fellf1_6 from (rwI_0 (by decide) rfl rfl (by have h9_0 : (-2 : Int32).toInt = (-2) := (by decide); have h9_1 : (0 : Int32).toInt = 0 := (by decide); have qx_13 : (n_atf1_5 p1.toNatClampNeg).toInt = x_13.toInt := (by rw [ex_13]); have qx_12 : (h_told_goalsf p1.toNatClampNeg).toInt = x_12.toInt := (by rw [ex_12]); omega) rfl)) (show 1 ≤ p3.toInt + 1 by omega) (show 92 - 1 ≤ ((92 : Nat) : Int) by omega) hP hD hS hl
  · have h_14 : x_13.toInt = x_12.toInt := c_eq h_14
    refine lv_iconst (v := 0) hx hb dX11_wander_36 (by decide) ?_
    refine lv_goto (tgt := 42) hx hb dX11_wander_37 (by decide) ?_
    refine lv_istore (lv' := [(5, .int 0), (4, .int x_12), (0, .ref h0), (1, .int p1), (2, .int p2), (3, .int p3)]) hx hb dX11_wander_42 hl (by decide) rfl (fun ls hl => ?_)
    refine lv_iload_n hx hb dX11_wander_44 rfl (lv_at hl 4 rfl) ?_
    refine lv_istore (lv' := [(6, .int p2), (5, .int 0), (4, .int x_12), (0, .ref h0), (1, .int p1), (2, .int p2), (3, .int p3)]) hx hb dX11_wander_45 hl (by decide) rfl (fun ls hl => ?_)
    refine lv_iconst (v := 1) hx hb dX11_wander_47 (by decide) ?_
    refine lv_istore (lv' := [(7, .int 1), (6, .int p2), (5, .int 0), (4, .int x_12), (0, .ref h0), (1, .int p1), (2, .int p2), (3, .int p3)]) hx hb dX11_wander_48 hl (by decide) rfl (fun ls hl => ?_)
    have lp_45 : ∀ (nlp_45 : Nat) (i_46 : Int32) (i_48 : Int32) (i_50 : Int32) (f_51 : Nat → Int32) (f_53 : Nat → Int32) (f_54 : Nat → Int32) (H : Heap) (locs : List Loc) (ls : Array Slot), (1 ≤ i_46.toInt ∧ i_46.toInt ≤ 91) → (0 ≤ i_48.toInt ∧ i_48.toInt ≤ 65536) → (rb f_51 4 0 19) → (rwI n_ground_wide1_1.toInt n_ground_count1_3.toInt n_ground_sortsf1_4 (h_told_kindsf p1.toNatClampNeg).toInt (h_told_goalsf p1.toNatClampNeg).toInt p2.toInt (n_atf1_5 p1.toNatClampNeg).toInt (i_46.toInt - 1) i_48.toInt i_50.toInt p1 f_51 f_53 n_fellf1_6) → (i_46.toInt ≤ p3.toInt + 1) → (92 - i_46.toInt ≤ (nlp_45 : Int)) → va_P (dC, dI) vwCl [(h0, .inr (10, [.ref h_tape, .ref h_now, .ref h_trial, .ref h_kept, .ref h_images, .ref h_way, .ref h_otherWay, .ref h_flood, .ref h_cutSearch, .ref h_drySearch, .ref h_guess, .ref h_fraction, .ref h_told, .ref h_draft, .int h_keptCount, .int h_imageCount, .int h_trouble])), (h_told, .inr (7, [.ref h_told_ground, .int h_told_errs, .int h_told_slips, .int h_told_rows, .int h_told_unsureCount, .ref h_told_unsure, .int h_told_walkers, .ref h_told_names, .ref h_told_kinds, .ref h_told_starts, .ref h_told_goals, .int h_told_walks, .ref h_told_walkStarts, .ref h_told_walkSteps, .ref h_told_walkFell])), (h_told_kinds, .inl (cy 1, 4, .inl h_told_kindsf)), (h_told_goals, .inl (cy 1, 4, .inl h_told_goalsf)), (h_trial, .inr (6, [.ref h_trial_ground, .ref h_trial_at, .ref h_trial_fell, .ref h_trial_went, .int n_walkers1_8])), (h_trial_ground, .inr (4, [.int n_ground_wide1_1, .int n_ground_deep1_2, .int n_ground_count1_3, .ref h_trial_ground_sorts])), (h_trial_ground_sorts, .inl (cy 1, 20, .inl n_ground_sortsf1_4)), (h_trial_at, .inl (cy 1, 4, .inl f_51)), (h_trial_fell, .inl (cy 1, 4, .inl f_53)), (h_trial_went, .inl (cy 1, 4, .inl f_54)), (h_now, .inr (6, [.ref h_now_ground, .ref h_now_at, .ref h_now_fell, .ref h_now_went, .int h_now_walkers])), (h_now_ground, .inr (4, [.int h_now_ground_wide, .int h_now_ground_deep, .int h_now_ground_count, .ref h_now_ground_sorts])), (h_now_ground_sorts, .inl (cy 1, 20, .inl h_now_ground_sortsf)), (h_now_at, .inl (cy 1, 4, .inl h_now_atf)), (h_now_fell, .inl (cy 1, 4, .inl h_now_fellf)), (h_now_went, .inl (cy 1, 4, .inl h_now_wentf))] H → va_D A [(h0, .inr (10, [.ref h_tape, .ref h_now, .ref h_trial, .ref h_kept, .ref h_images, .ref h_way, .ref h_otherWay, .ref h_flood, .ref h_cutSearch, .ref h_drySearch, .ref h_guess, .ref h_fraction, .ref h_told, .ref h_draft, .int h_keptCount, .int h_imageCount, .int h_trouble])), (h_told, .inr (7, [.ref h_told_ground, .int h_told_errs, .int h_told_slips, .int h_told_rows, .int h_told_unsureCount, .ref h_told_unsure, .int h_told_walkers, .ref h_told_names, .ref h_told_kinds, .ref h_told_starts, .ref h_told_goals, .int h_told_walks, .ref h_told_walkStarts, .ref h_told_walkSteps, .ref h_told_walkFell])), (h_told_kinds, .inl (cy 1, 4, .inl h_told_kindsf)), (h_told_goals, .inl (cy 1, 4, .inl h_told_goalsf)), (h_trial, .inr (6, [.ref h_trial_ground, .ref h_trial_at, .ref h_trial_fell, .ref h_trial_went, .int n_walkers1_8])), (h_trial_ground, .inr (4, [.int n_ground_wide1_1, .int n_ground_deep1_2, .int n_ground_count1_3, .ref h_trial_ground_sorts])), (h_trial_ground_sorts, .inl (cy 1, 20, .inl n_ground_sortsf1_4)), (h_trial_at, .inl (cy 1, 4, .inl f_51)), (h_trial_fell, .inl (cy 1, 4, .inl f_53)), (h_trial_went, .inl (cy 1, 4, .inl f_54)), (h_now, .inr (6, [.ref h_now_ground, .ref h_now_at, .ref h_now_fell, .ref h_now_went, .int h_now_walkers])), (h_now_ground, .inr (4, [.int h_now_ground_wide, .int h_now_ground_deep, .int h_now_ground_count, .ref h_now_ground_sorts])), (h_now_ground_sorts, .inl (cy 1, 20, .inl h_now_ground_sortsf)), (h_now_at, .inl (cy 1, 4, .inl h_now_atf)), (h_now_fell, .inl (cy 1, 4, .inl h_now_fellf)), (h_now_went, .inl (cy 1, 4, .inl h_now_wentf))] → va_S A s.heap H locs → lv_has ls 8 [(7, .int i_46), (6, .int i_48), (5, .int i_50), (4, .int x_12), (0, .ref h0), (1, .int p1), (2, .int p2), (3, .int p3)] → W p l e ({ frames := 3, cells := 0, slots := 0, locals := 82 } : Room) s m args below meth c H locs 0 0 Q (F0 m 50 ls []) := by
      intro nlp_45
      induction nlp_45 with
      | zero =>
        intro i_46 i_48 i_50 f_51 f_53 f_54 H locs ls b_47 b_49 b_52 b_55 b_56 hmlp_45 hP hD hS hl
        exfalso
        have di_46 := ti_bd i_46
        have di_48 := ti_bd i_48
        have di_50 := ti_bd i_50
        omega
      | succ nlp_45 ihlp_45 =>
        intro i_46 i_48 i_50 f_51 f_53 f_54 H locs ls b_47 b_49 b_52 b_55 b_56 hmlp_45 hP hD hS hl
        refine lv_iload hx hb dX11_wander_50 (lv_at hl 0 rfl) ?_
        refine lv_iload_n hx hb dX11_wander_52 rfl (lv_at hl 7 rfl) ?_
        refine lv_icmp_gt (tgt := 122) hx hb dX11_wander_53 (by decide) (fun h_57 => ?_) (fun h_57 => ?_)
        · have h_57 : p3.toInt < i_46.toInt := c_lt h_57
          refine lv_iload hx hb dX11_wander_122 (lv_at hl 2 rfl) ?_
          exact eI hQ X hr hlocks hP hD hS (n_ground_wide1_1, n_ground_deep1_2, n_ground_count1_3, n_ground_sortsf1_4, f_51, f_53, f_54, n_walkers1_8) [0, 10, 11, 12, 13, 14, 15, 4, 5, 6, 7, 8, 9, 1, 2, 3] (by decide +kernel) rfl rfl (show (0 ≤ n_ground_wide1_1.toInt ∧ n_ground_wide1_1.toInt ≤ 5) ∧ (0 ≤ n_ground_deep1_2.toInt ∧ n_ground_deep1_2.toInt ≤ 4) ∧ (0 ≤ n_ground_count1_3.toInt ∧ n_ground_count1_3.toInt ≤ 20) ∧ (rb f_51 4 0 19) ∧ (0 ≤ n_walkers1_8.toInt ∧ n_walkers1_8.toInt ≤ 4) ∧ (wnP h_now_ground_wide.toInt (h_now_ground_wide.toInt * h_now_ground_deep.toInt) h_now_ground_sortsf h_told_kindsf h_told_goalsf h_now_atf h_now_fellf p1 p2.toInt p3.toInt i_50.toInt f_51 f_53) from ⟨k_10_0, k_10_1, k_10_2, b_52, k_10_4, (wnP_of k_10_5 b_55 (by omega) (by omega) (by omega) (by omega) rfl rfl)⟩) (Nat.le_of_ble_eq_true rfl) (Nat.le_of_ble_eq_true rfl) dX11_wander_124
        · have h_57 : i_46.toInt ≤ p3.toInt := c_nlt h_57
          refine lv_bipush (v := 75) hx hb dX11_wander_56 (by decide) ?_
          refine lv_iload hx hb dX11_wander_58 (lv_at hl 1 rfl) ?_
          refine lv_imul hx hb dX11_wander_60 ?_
          refine lv_topi (fun x_58 ex_58 => ?_)
          have tx_58 : x_58.toInt = 75 * i_48.toInt := ti_mulk (A := 75) (B := i_48.toInt) ex_58 rfl rfl (by omega) (by omega)
          refine lv_bipush (v := 74) hx hb dX11_wander_61 (by decide) ?_
          refine lv_iadd hx hb dX11_wander_63 ?_
          refine lv_topi (fun x_59 ex_59 => ?_)
          have tx_59 : x_59.toInt = x_58.toInt + 74 := ti_add (A := x_58.toInt) (B := 74) ex_59 rfl rfl (by omega) (by omega)
          refine lv_ldcw (v := 65537) hx hb X.2.2.2.1 (X.2.2.2.2.1 _ w_1187) dX11_wander_64 ?_
          refine lv_irem hx hb dX11_wander_67 (by decide) ?_
          refine lv_topi (fun x_60 ex_60 => ?_)
          have tx_60 : 0 ≤ x_60.toInt ∧ x_60.toInt < 65537 ∧ x_60.toInt ≤ x_59.toInt ∧ x_60.toInt = x_59.toInt % 65537 := ti_rem ex_60 (by omega) (by decide)
          refine lv_istore (lv' := [(6, .int x_60), (7, .int i_46), (5, .int i_50), (4, .int x_12), (0, .ref h0), (1, .int p1), (2, .int p2), (3, .int p3)]) hx hb dX11_wander_68 hl (by decide) rfl (fun ls hl => ?_)
          refine lv_aload_n hx hb dX11_wander_70 rfl (lv_at hl 4 rfl) ?_
          refine r_get X kcX11 (ci := 10) rfl hP 0 rfl 2 (by decide) fX11_23 rfl dX11_wander_71 ?_
          refine lv_iload_n hx hb dX11_wander_74 rfl (lv_at hl 5 rfl) ?_
          refine lv_aload_n hx hb dX11_wander_75 rfl (lv_at hl 4 rfl) ?_
          refine r_get X kcX11 (ci := 10) rfl hP 0 rfl 12 (by decide) fX11_81 rfl dX11_wander_76 ?_
          refine r_get X kcX7 (ci := 7) rfl hP 1 rfl 8 (by decide) fX11_162 rfl dX11_wander_79 ?_
          refine lv_iload_n hx hb dX11_wander_82 rfl (lv_at hl 5 rfl) ?_
          refine va_iald (D := (dC, dI)) (cl := vwCl) hx hb hK hP 2 1 rfl rfl (i := p1) (vin (by omega) (by omega)) dX11_wander_83 ?_
          refine lv_topi (fun x_61 ex_61 => ?_)
          refine lv_iload hx hb dX11_wander_84 (lv_at hl 0 rfl) ?_
          refine lv_iconst (v := 4) hx hb dX11_wander_86 (by decide) ?_
          refine lv_irem hx hb dX11_wander_87 (by decide) ?_
          refine lv_topi (fun x_62 ex_62 => ?_)
          have tx_62 : 0 ≤ x_62.toInt ∧ x_62.toInt < 4 ∧ x_62.toInt ≤ x_60.toInt ∧ x_62.toInt = x_60.toInt % 4 := ti_rem ex_62 (by omega) (by decide)
          refine sl_Vc (rV_V (As := [.int p1, .int x_61, .int x_62]) (rest := []) X hp_st (fun _ _ _ h => h) (sX6_go l dC dI cy h_trial h_trial_ground h_trial_at h_trial_fell h_trial_went n_walkers1_8 n_ground_wide1_1 n_ground_deep1_2 n_ground_count1_3 h_trial_ground_sorts n_ground_sortsf1_4 f_51 f_53 f_54 p1 x_61 x_62 k_10_4 k_10_0 k_10_1 k_10_2 b_52 hp1) kX6_go vX6_go mX11_347 hP hD hS hA [4, 5, 6, 7, 8, 9] (by decide) rfl 0 (ci := 6) rfl rfl rfl hl rfl rfl (Nat.le_of_ble_eq_true rfl) dX11_wander_88 ⟨(Nat.le_of_ble_eq_true rfl), (Nat.le_of_ble_eq_true rfl)⟩ ⟨(Nat.le_of_ble_eq_true rfl), (Nat.le_of_ble_eq_true rfl)⟩) hP hD hS hA [4, 5, 6, 7, 8, 9] [true, true, true, true, false, false, false, false, false, false, true, true, true, true, true, true] rfl rfl rfl (fun u_68 H locs k_67 hP hD hS => ?_)
          obtain ⟨n_atf1_63, n_fellf1_64, n_wentf1_65⟩ := u_68
          have k_67 : (rb n_atf1_63 4 0 19) ∧ (goP n_ground_wide1_1.toInt n_ground_count1_3.toInt n_ground_sortsf1_4 f_51 f_53 f_54 p1 x_61.toInt x_62.toInt n_atf1_63 n_fellf1_64 n_wentf1_65) := k_67
          obtain ⟨k_67_0, k_67_1⟩ := k_67
          have hPD := vPD (ws' := [(h0, .inr (10, [.ref h_tape, .ref h_now, .ref h_trial, .ref h_kept, .ref h_images, .ref h_way, .ref h_otherWay, .ref h_flood, .ref h_cutSearch, .ref h_drySearch, .ref h_guess, .ref h_fraction, .ref h_told, .ref h_draft, .int h_keptCount, .int h_imageCount, .int h_trouble])), (h_told, .inr (7, [.ref h_told_ground, .int h_told_errs, .int h_told_slips, .int h_told_rows, .int h_told_unsureCount, .ref h_told_unsure, .int h_told_walkers, .ref h_told_names, .ref h_told_kinds, .ref h_told_starts, .ref h_told_goals, .int h_told_walks, .ref h_told_walkStarts, .ref h_told_walkSteps, .ref h_told_walkFell])), (h_told_kinds, .inl (cy 1, 4, .inl h_told_kindsf)), (h_told_goals, .inl (cy 1, 4, .inl h_told_goalsf)), (h_now, .inr (6, [.ref h_now_ground, .ref h_now_at, .ref h_now_fell, .ref h_now_went, .int h_now_walkers])), (h_now_ground, .inr (4, [.int h_now_ground_wide, .int h_now_ground_deep, .int h_now_ground_count, .ref h_now_ground_sorts])), (h_now_ground_sorts, .inl (cy 1, 20, .inl h_now_ground_sortsf)), (h_now_at, .inl (cy 1, 4, .inl h_now_atf)), (h_now_fell, .inl (cy 1, 4, .inl h_now_fellf)), (h_now_went, .inl (cy 1, 4, .inl h_now_wentf)), (h_trial, .inr (6, [.ref h_trial_ground, .ref h_trial_at, .ref h_trial_fell, .ref h_trial_went, .int n_walkers1_8])), (h_trial_ground, .inr (4, [.int n_ground_wide1_1, .int n_ground_deep1_2, .int n_ground_count1_3, .ref h_trial_ground_sorts])), (h_trial_ground_sorts, .inl (cy 1, 20, .inl n_ground_sortsf1_4)), (h_trial_at, .inl (cy 1, 4, .inl n_atf1_63)), (h_trial_fell, .inl (cy 1, 4, .inl n_fellf1_64)), (h_trial_went, .inl (cy 1, 4, .inl n_wentf1_65))]) hP hD rfl
          have hP := hPD.1
          have hD := hPD.2
          refine lv_iload hx hb dX11_wander_91 (lv_at hl 2 rfl) ?_
          refine lv_bipush (v := -2) hx hb dX11_wander_93 (by decide) ?_
          refine lv_icmp_ne (tgt := 116) hx hb dX11_wander_95 (by decide) (fun h_69 => ?_) (fun h_69 => ?_)
          · have h_69 : i_50.toInt ≠ (-2) := c_ne h_69
            obtain ⟨x_70, ex_70⟩ : ∃ y : Int32, y = i_46 + 1 := ⟨_, rfl⟩
            have tx_70 : x_70.toInt = i_46.toInt + 1 := ti_add (A := i_46.toInt) (B := 1) ex_70 rfl rfl (by omega) (by omega)
            refine lv_iinc (v := x_70) (lv' := [(7, .int x_70), (6, .int x_60), (5, .int i_50), (4, .int x_12), (0, .ref h0), (1, .int p1), (2, .int p2), (3, .int p3)]) hx hb dX11_wander_116 hl (k := 1) rfl (by rw [ex_70]; rfl) (by decide) rfl (fun ls hl => ?_)
            refine lv_goto (tgt := 50) hx hb dX11_wander_119 (by decide) ?_
            exact ihlp_45 x_70 x_60 i_50 n_atf1_63 n_fellf1_64 n_wentf1_65 _ _ _ (by omega) (by omega) k_67_0 (show rwI n_ground_wide1_1.toInt n_ground_count1_3.toInt n_ground_sortsf1_4 (h_told_kindsf p1.toNatClampNeg).toInt (h_told_goalsf p1.toNatClampNeg).toInt p2.toInt (n_atf1_5 p1.toNatClampNeg).toInt (x_70.toInt - 1) x_60.toInt i_50.toInt p1 n_atf1_63 n_fellf1_64 n_fellf1_6 from (rwI_up (m := i_46.toInt - 1) (st := x_62.toInt) b_55 (by omega) (by omega) (by omega) (by rw [← ex_61]; exact k_67_1) (tgZ_bd (by omega)) (by have qx_12 : (h_told_goalsf p1.toNatClampNeg).toInt = x_12.toInt := (by rw [ex_12]); omega) (by omega))) (show x_70.toInt ≤ p3.toInt + 1 by omega) (show 92 - x_70.toInt ≤ (nlp_45 : Int) by omega) (hP.sub [0, 1, 2, 3, 10, 11, 12, 13, 14, 15, 4, 5, 6, 7, 8, 9] rfl) (hD.sub [0, 1, 2, 3, 10, 11, 12, 13, 14, 15, 4, 5, 6, 7, 8, 9] (by decide +kernel) rfl) hS (lv_sub hl [0, 1, 2, 3, 4, 5, 6, 7] rfl)
          · have h_69 : i_50.toInt = (-2) := c_eq h_69
            refine lv_aload_n hx hb dX11_wander_98 rfl (lv_at hl 4 rfl) ?_
            refine r_get X kcX11 (ci := 10) rfl hP 0 rfl 2 (by decide) fX11_23 rfl dX11_wander_99 ?_
            refine r_get X kcX6 (ci := 6) rfl hP 10 rfl 1 (by decide) fX11_166 rfl dX11_wander_102 ?_
            refine lv_iload_n hx hb dX11_wander_105 rfl (lv_at hl 5 rfl) ?_
            refine va_iald (D := (dC, dI)) (cl := vwCl) hx hb hK hP 13 1 rfl rfl (i := p1) (vin (by omega) (by omega)) dX11_wander_106 ?_
            refine lv_topi (fun x_71 ex_71 => ?_)
            have bx_71 : 0 ≤ x_71.toInt ∧ x_71.toInt ≤ 19 := rb_at k_67_0 ex_71 (by omega) (by omega)
            refine lv_iload hx hb dX11_wander_107 (lv_at hl 3 rfl) ?_
            refine lv_icmp_ne (tgt := 116) hx hb dX11_wander_109 (by decide) (fun h_72 => ?_) (fun h_72 => ?_)
            · have h_72 : x_71.toInt ≠ x_12.toInt := c_ne h_72
              obtain ⟨x_73, ex_73⟩ : ∃ y : Int32, y = i_46 + 1 := ⟨_, rfl⟩
              have tx_73 : x_73.toInt = i_46.toInt + 1 := ti_add (A := i_46.toInt) (B := 1) ex_73 rfl rfl (by omega) (by omega)
              refine lv_iinc (v := x_73) (lv' := [(7, .int x_73), (6, .int x_60), (5, .int i_50), (4, .int x_12), (0, .ref h0), (1, .int p1), (2, .int p2), (3, .int p3)]) hx hb dX11_wander_116 hl (k := 1) rfl (by rw [ex_73]; rfl) (by decide) rfl (fun ls hl => ?_)
              refine lv_goto (tgt := 50) hx hb dX11_wander_119 (by decide) ?_
              exact ihlp_45 x_73 x_60 i_50 n_atf1_63 n_fellf1_64 n_wentf1_65 _ _ _ (by omega) (by omega) k_67_0 (show rwI n_ground_wide1_1.toInt n_ground_count1_3.toInt n_ground_sortsf1_4 (h_told_kindsf p1.toNatClampNeg).toInt (h_told_goalsf p1.toNatClampNeg).toInt p2.toInt (n_atf1_5 p1.toNatClampNeg).toInt (x_73.toInt - 1) x_60.toInt i_50.toInt p1 n_atf1_63 n_fellf1_64 n_fellf1_6 from (rwI_up (m := i_46.toInt - 1) (st := x_62.toInt) b_55 (by omega) (by omega) (by omega) (by rw [← ex_61]; exact k_67_1) (tgZ_bd (by omega)) (by have qx_71 : (n_atf1_63 p1.toNatClampNeg).toInt = x_71.toInt := (by rw [ex_71]); have qx_12 : (h_told_goalsf p1.toNatClampNeg).toInt = x_12.toInt := (by rw [ex_12]); omega) (by omega))) (show x_73.toInt ≤ p3.toInt + 1 by omega) (show 92 - x_73.toInt ≤ (nlp_45 : Int) by omega) (hP.sub [0, 1, 2, 3, 10, 11, 12, 13, 14, 15, 4, 5, 6, 7, 8, 9] rfl) (hD.sub [0, 1, 2, 3, 10, 11, 12, 13, 14, 15, 4, 5, 6, 7, 8, 9] (by decide +kernel) rfl) hS (lv_sub hl [0, 1, 2, 3, 4, 5, 6, 7] rfl)
            · have h_72 : x_71.toInt = x_12.toInt := c_eq h_72
              refine lv_iload hx hb dX11_wander_112 (lv_at hl 1 rfl) ?_
              refine lv_istore (lv' := [(5, .int i_46), (6, .int x_60), (7, .int i_46), (4, .int x_12), (0, .ref h0), (1, .int p1), (2, .int p2), (3, .int p3)]) hx hb dX11_wander_114 hl (by decide) rfl (fun ls hl => ?_)
              obtain ⟨x_74, ex_74⟩ : ∃ y : Int32, y = i_46 + 1 := ⟨_, rfl⟩
              have tx_74 : x_74.toInt = i_46.toInt + 1 := ti_add (A := i_46.toInt) (B := 1) ex_74 rfl rfl (by omega) (by omega)
              refine lv_iinc (v := x_74) (lv' := [(7, .int x_74), (5, .int i_46), (6, .int x_60), (4, .int x_12), (0, .ref h0), (1, .int p1), (2, .int p2), (3, .int p3)]) hx hb dX11_wander_116 hl (k := 2) rfl (by rw [ex_74]; rfl) (by decide) rfl (fun ls hl => ?_)
              refine lv_goto (tgt := 50) hx hb dX11_wander_119 (by decide) ?_
              exact ihlp_45 x_74 x_60 i_46 n_atf1_63 n_fellf1_64 n_wentf1_65 _ _ _ (by omega) (by omega) k_67_0 (show rwI n_ground_wide1_1.toInt n_ground_count1_3.toInt n_ground_sortsf1_4 (h_told_kindsf p1.toNatClampNeg).toInt (h_told_goalsf p1.toNatClampNeg).toInt p2.toInt (n_atf1_5 p1.toNatClampNeg).toInt (x_74.toInt - 1) x_60.toInt i_46.toInt p1 n_atf1_63 n_fellf1_64 n_fellf1_6 from (rwI_up (m := i_46.toInt - 1) (st := x_62.toInt) b_55 (by omega) (by omega) (by omega) (by rw [← ex_61]; exact k_67_1) (tgZ_bd (by omega)) (by have qx_71 : (n_atf1_63 p1.toNatClampNeg).toInt = x_71.toInt := (by rw [ex_71]); have qx_12 : (h_told_goalsf p1.toNatClampNeg).toInt = x_12.toInt := (by rw [ex_12]); omega) (by omega))) (show x_74.toInt ≤ p3.toInt + 1 by omega) (show 92 - x_74.toInt ≤ (nlp_45 : Int) by omega) (hP.sub [0, 1, 2, 3, 10, 11, 12, 13, 14, 15, 4, 5, 6, 7, 8, 9] rfl) (hD.sub [0, 1, 2, 3, 10, 11, 12, 13, 14, 15, 4, 5, 6, 7, 8, 9] (by decide +kernel) rfl) hS (lv_sub hl [0, 2, 1, 3, 4, 5, 6, 7] rfl)
    exact lp_45 92 1 p2 0 n_atf1_5 n_fellf1_6 n_wentf1_7 _ _ _ (by decide) (by omega) k_10_3 (show rwI n_ground_wide1_1.toInt n_ground_count1_3.toInt n_ground_sortsf1_4 (h_told_kindsf p1.toNatClampNeg).toInt (h_told_goalsf p1.toNatClampNeg).toInt p2.toInt (n_atf1_5 p1.toNatClampNeg).toInt (1 - 1) p2.toInt 0 p1 n_atf1_5 n_fellf1_6 n_fellf1_6 from (rwI_0 (by decide) rfl rfl (by have h9_0 : (-2 : Int32).toInt = (-2) := (by decide); have h9_1 : (0 : Int32).toInt = 0 := (by decide); have qx_13 : (n_atf1_5 p1.toNatClampNeg).toInt = x_13.toInt := (by rw [ex_13]); have qx_12 : (h_told_goalsf p1.toNatClampNeg).toInt = x_12.toInt := (by rw [ex_12]); omega) rfl)) (show 1 ≤ p3.toInt + 1 by omega) (show 92 - 1 ≤ ((92 : Nat) : Int) by omega) hP hD hS hl
set_option maxHeartbeats 4000000 in
set_option maxRecDepth 100000 in
theorem sX11_pay (l : Launch) (dC : Nat → ClassId) (dI : Nat → Nat → Nat) (cy : Nat → ClassId) (p1 : Int32) (p2 : Int32) (p3 : Int32) : ctI l dC dI cy hp yX11_pay cX11_pay 3 .int ({ frames := 0, cells := 0, slots := 0, locals := 0 } : Room) [.int p1, .int p2, .int p3] [] (S := Unit) (fun r _ => True) (fun _ => []) := by
  refine ctI.of (by decide +kernel) (Nat.le_of_ble_eq_true rfl) ?_
  intro p e s m args below meth c A ls Q hQ X hr hlocks hin hA hP hD hS hl
  have hx := X.1
  have hb := X.2.1
  have hK := X.2.2.2.2.2.1
  have hl : lv_has ls 3 [(0, .int p1), (1, .int p2), (2, .int p3)] := hl
  have dy_1 := ti_bd p1
  have dy_2 := ti_bd p2
  have dy_3 := ti_bd p3
  refine lv_iload_n hx hb dX11_pay_0 rfl (lv_at hl 1 rfl) ?_
  refine lv_if_eq (tgt := 16) hx hb dX11_pay_1 (by decide) (fun h_4 => ?_) (fun h_4 => ?_)
  · have h_4 : p2.toInt = 0 := c_eq h_4
    refine lv_iload_n hx hb dX11_pay_16 rfl (lv_at hl 2 rfl) ?_
    refine lv_if_eq (tgt := 24) hx hb dX11_pay_17 (by decide) (fun h_5 => ?_) (fun h_5 => ?_)
    · have h_5 : p3.toInt = 0 := c_eq h_5
      refine lv_iconst (v := 1) hx hb dX11_pay_24 (by decide) ?_
      exact eI hQ X hr hlocks hP hD hS () [] (by decide) rfl rfl trivial (Nat.le_of_ble_eq_true rfl) (Nat.le_of_ble_eq_true rfl) dX11_pay_25
    · have h_5 : p3.toInt ≠ 0 := c_ne h_5
      refine lv_iconst (v := 0) hx hb dX11_pay_20 (by decide) ?_
      refine lv_goto (tgt := 25) hx hb dX11_pay_21 (by decide) ?_
      exact eI hQ X hr hlocks hP hD hS () [] (by decide) rfl rfl trivial (Nat.le_of_ble_eq_true rfl) (Nat.le_of_ble_eq_true rfl) dX11_pay_25
  · have h_4 : p2.toInt ≠ 0 := c_ne h_4
    refine lv_iload_n hx hb dX11_pay_4 rfl (lv_at hl 2 rfl) ?_
    refine lv_if_eq (tgt := 14) hx hb dX11_pay_5 (by decide) (fun h_6 => ?_) (fun h_6 => ?_)
    · have h_6 : p3.toInt = 0 := c_eq h_6
      refine lv_iconst (v := 4) hx hb dX11_pay_14 (by decide) ?_
      exact eI hQ X hr hlocks hP hD hS () [] (by decide) rfl rfl trivial (Nat.le_of_ble_eq_true rfl) (Nat.le_of_ble_eq_true rfl) dX11_pay_15
    · have h_6 : p3.toInt ≠ 0 := c_ne h_6
      refine lv_iconst (v := 2) hx hb dX11_pay_8 (by decide) ?_
      refine lv_iload_n hx hb dX11_pay_9 rfl (lv_at hl 0 rfl) ?_
      refine lv_isub hx hb dX11_pay_10 ?_
      refine lv_topi (fun x_7 ex_7 => ?_)
      refine lv_goto (tgt := 15) hx hb dX11_pay_11 (by decide) ?_
      exact eI hQ X hr hlocks hP hD hS () [] (by decide) rfl rfl trivial (Nat.le_of_ble_eq_true rfl) (Nat.le_of_ble_eq_true rfl) dX11_pay_15
set_option maxHeartbeats 4000000 in
set_option maxRecDepth 100000 in
theorem sX11_isRest (l : Launch) (dC : Nat → ClassId) (dI : Nat → Nat → Nat) (cy : Nat → ClassId) (p1 : Int32) (p2 : Int32) (p3 : Int32) : ctI l dC dI cy hp yX11_isRest cX11_isRest 5 .boolean ({ frames := 1, cells := 0, slots := 0, locals := 22 } : Room) [.int p1, .int p2, .int p3] [] (S := Unit) (fun r _ => (0 ≤ r.toInt ∧ r.toInt ≤ 1)) (fun _ => []) := by
  refine ctI.of (by decide +kernel) (Nat.le_of_ble_eq_true rfl) ?_
  intro p e s m args below meth c A ls Q hQ X hr hlocks hin hA hP hD hS hl
  have hx := X.1
  have hb := X.2.1
  have hK := X.2.2.2.2.2.1
  have hl : lv_has ls 5 [(0, .int p1), (1, .int p2), (2, .int p3)] := hl
  have dy_1 := ti_bd p1
  have dy_2 := ti_bd p2
  have dy_3 := ti_bd p3
  refine lv_iload_n hx hb dX11_isRest_0 rfl (lv_at hl 0 rfl) ?_
  refine lv_iload_n hx hb dX11_isRest_1 rfl (lv_at hl 1 rfl) ?_
  refine lv_iload_n hx hb dX11_isRest_2 rfl (lv_at hl 2 rfl) ?_
  refine sl_Ic (rS_I (As := [.int p1, .int p2, .int p3]) (rest := []) X hp_st (fun _ _ _ h => h) (sX11_pay l dC dI cy p1 p2 p3) kX11_pay w_1151 mX11_321 hP hD hS hA [] (by decide) rfl hl rfl rfl (Nat.le_of_ble_eq_true rfl) dX11_isRest_3 ⟨(Nat.le_of_ble_eq_true rfl), (Nat.le_of_ble_eq_true rfl)⟩ ⟨(Nat.le_of_ble_eq_true rfl), (Nat.le_of_ble_eq_true rfl)⟩) hP hD hS hA [] [] rfl rfl rfl (fun r_4 u_6 H locs k_5 hP hD hS => ?_)
  have hPD := vPD (ws' := []) hP hD rfl
  have hP := hPD.1
  have hD := hPD.2
  refine lv_iload_n hx hb dX11_isRest_6 rfl (lv_at hl 0 rfl) ?_
  refine lv_iload_n hx hb dX11_isRest_7 rfl (lv_at hl 1 rfl) ?_
  refine lv_if_ne (tgt := 15) hx hb dX11_isRest_8 (by decide) (fun h_7 => ?_) (fun h_7 => ?_)
  · have h_7 : p2.toInt ≠ 0 := c_ne h_7
    refine lv_iconst (v := 0) hx hb dX11_isRest_15 (by decide) ?_
    refine lv_iload_n hx hb dX11_isRest_16 rfl (lv_at hl 2 rfl) ?_
    refine sl_Ic (rS_I (As := [.int p1, .int 0, .int p3]) (rest := [.int r_4]) X hp_st (fun _ _ _ h => h) (sX11_pay l dC dI cy p1 0 p3) kX11_pay w_1151 mX11_321 hP hD hS hA [] (by decide) rfl hl rfl rfl (Nat.le_of_ble_eq_true rfl) dX11_isRest_17 ⟨(Nat.le_of_ble_eq_true rfl), (Nat.le_of_ble_eq_true rfl)⟩ ⟨(Nat.le_of_ble_eq_true rfl), (Nat.le_of_ble_eq_true rfl)⟩) hP hD hS hA [] [] rfl rfl rfl (fun r_8 u_10 H locs k_9 hP hD hS => ?_)
    have hPD := vPD (ws' := []) hP hD rfl
    have hP := hPD.1
    have hD := hPD.2
    refine lv_icmp_lt (tgt := 27) hx hb dX11_isRest_20 (by decide) (fun h_11 => ?_) (fun h_11 => ?_)
    · have h_11 : r_4.toInt < r_8.toInt := c_lt h_11
      refine lv_iconst (v := 0) hx hb dX11_isRest_27 (by decide) ?_
      refine lv_istore_n (lv' := [(3, .int 0), (0, .int p1), (1, .int p2), (2, .int p3)]) hx hb dX11_isRest_28 rfl hl (by decide) rfl (fun ls hl => ?_)
      refine lv_iload_n hx hb dX11_isRest_29 rfl (lv_at hl 1 rfl) ?_
      refine lv_iload_n hx hb dX11_isRest_30 rfl (lv_at hl 3 rfl) ?_
      refine lv_iload_n hx hb dX11_isRest_31 rfl (lv_at hl 2 rfl) ?_
      refine sl_Ic (rS_I (As := [.int p1, .int p3, .int p2]) (rest := []) X hp_st (fun _ _ _ h => h) (sX11_pay l dC dI cy p1 p3 p2) kX11_pay w_1151 mX11_321 hP hD hS hA [] (by decide) rfl hl rfl rfl (Nat.le_of_ble_eq_true rfl) dX11_isRest_32 ⟨(Nat.le_of_ble_eq_true rfl), (Nat.le_of_ble_eq_true rfl)⟩ ⟨(Nat.le_of_ble_eq_true rfl), (Nat.le_of_ble_eq_true rfl)⟩) hP hD hS hA [] [] rfl rfl rfl (fun r_12 u_14 H locs k_13 hP hD hS => ?_)
      have hPD := vPD (ws' := []) hP hD rfl
      have hP := hPD.1
      have hD := hPD.2
      refine lv_iload_n hx hb dX11_isRest_35 rfl (lv_at hl 1 rfl) ?_
      refine lv_iload_n hx hb dX11_isRest_36 rfl (lv_at hl 3 rfl) ?_
      refine lv_if_ne (tgt := 44) hx hb dX11_isRest_37 (by decide) (fun h_15 => ?_) (fun h_15 => ?_)
      · have h_15 : p3.toInt ≠ 0 := c_ne h_15
        refine lv_iconst (v := 0) hx hb dX11_isRest_44 (by decide) ?_
        refine lv_iload_n hx hb dX11_isRest_45 rfl (lv_at hl 2 rfl) ?_
        refine sl_Ic (rS_I (As := [.int p1, .int 0, .int p2]) (rest := [.int r_12]) X hp_st (fun _ _ _ h => h) (sX11_pay l dC dI cy p1 0 p2) kX11_pay w_1151 mX11_321 hP hD hS hA [] (by decide) rfl hl rfl rfl (Nat.le_of_ble_eq_true rfl) dX11_isRest_46 ⟨(Nat.le_of_ble_eq_true rfl), (Nat.le_of_ble_eq_true rfl)⟩ ⟨(Nat.le_of_ble_eq_true rfl), (Nat.le_of_ble_eq_true rfl)⟩) hP hD hS hA [] [] rfl rfl rfl (fun r_16 u_18 H locs k_17 hP hD hS => ?_)
        have hPD := vPD (ws' := []) hP hD rfl
        have hP := hPD.1
        have hD := hPD.2
        refine lv_icmp_lt (tgt := 56) hx hb dX11_isRest_49 (by decide) (fun h_19 => ?_) (fun h_19 => ?_)
        · have h_19 : r_12.toInt < r_16.toInt := c_lt h_19
          refine lv_iconst (v := 0) hx hb dX11_isRest_56 (by decide) ?_
          refine lv_istore (lv' := [(4, .int 0), (3, .int 0), (0, .int p1), (1, .int p2), (2, .int p3)]) hx hb dX11_isRest_57 hl (by decide) rfl (fun ls hl => ?_)
          refine lv_iload_n hx hb dX11_isRest_59 rfl (lv_at hl 1 rfl) ?_
          refine lv_if_eq (tgt := 72) hx hb dX11_isRest_60 (by decide) (fun _ => ?_) (fun h_20 => absurd (by decide) h_20)
          refine lv_iconst (v := 0) hx hb dX11_isRest_72 (by decide) ?_
          exact eI hQ X hr hlocks hP hD hS () [] (by decide) rfl rfl (show (0 ≤ (0 : Int32).toInt ∧ (0 : Int32).toInt ≤ 1) from (by first | decide | (have h9_0 : (0 : Int32).toInt = 0 := (by decide); omega) | (refine ⟨by decide, ?_⟩; omega) | omega)) (Nat.le_of_ble_eq_true rfl) (Nat.le_of_ble_eq_true rfl) dX11_isRest_73
        · have h_19 : r_16.toInt ≤ r_12.toInt := c_nlt h_19
          refine lv_iconst (v := 1) hx hb dX11_isRest_52 (by decide) ?_
          refine lv_goto (tgt := 57) hx hb dX11_isRest_53 (by decide) ?_
          refine lv_istore (lv' := [(4, .int 1), (3, .int 0), (0, .int p1), (1, .int p2), (2, .int p3)]) hx hb dX11_isRest_57 hl (by decide) rfl (fun ls hl => ?_)
          refine lv_iload_n hx hb dX11_isRest_59 rfl (lv_at hl 1 rfl) ?_
          refine lv_if_eq (tgt := 72) hx hb dX11_isRest_60 (by decide) (fun _ => ?_) (fun h_21 => absurd (by decide) h_21)
          refine lv_iconst (v := 0) hx hb dX11_isRest_72 (by decide) ?_
          exact eI hQ X hr hlocks hP hD hS () [] (by decide) rfl rfl (show (0 ≤ (0 : Int32).toInt ∧ (0 : Int32).toInt ≤ 1) from (by first | decide | (have h9_0 : (0 : Int32).toInt = 0 := (by decide); omega) | (refine ⟨by decide, ?_⟩; omega) | omega)) (Nat.le_of_ble_eq_true rfl) (Nat.le_of_ble_eq_true rfl) dX11_isRest_73
      · have h_15 : p3.toInt = 0 := c_eq h_15
        refine lv_iconst (v := 1) hx hb dX11_isRest_40 (by decide) ?_
        refine lv_goto (tgt := 45) hx hb dX11_isRest_41 (by decide) ?_
        refine lv_iload_n hx hb dX11_isRest_45 rfl (lv_at hl 2 rfl) ?_
        refine sl_Ic (rS_I (As := [.int p1, .int 1, .int p2]) (rest := [.int r_12]) X hp_st (fun _ _ _ h => h) (sX11_pay l dC dI cy p1 1 p2) kX11_pay w_1151 mX11_321 hP hD hS hA [] (by decide) rfl hl rfl rfl (Nat.le_of_ble_eq_true rfl) dX11_isRest_46 ⟨(Nat.le_of_ble_eq_true rfl), (Nat.le_of_ble_eq_true rfl)⟩ ⟨(Nat.le_of_ble_eq_true rfl), (Nat.le_of_ble_eq_true rfl)⟩) hP hD hS hA [] [] rfl rfl rfl (fun r_22 u_24 H locs k_23 hP hD hS => ?_)
        have hPD := vPD (ws' := []) hP hD rfl
        have hP := hPD.1
        have hD := hPD.2
        refine lv_icmp_lt (tgt := 56) hx hb dX11_isRest_49 (by decide) (fun h_25 => ?_) (fun h_25 => ?_)
        · have h_25 : r_12.toInt < r_22.toInt := c_lt h_25
          refine lv_iconst (v := 0) hx hb dX11_isRest_56 (by decide) ?_
          refine lv_istore (lv' := [(4, .int 0), (3, .int 0), (0, .int p1), (1, .int p2), (2, .int p3)]) hx hb dX11_isRest_57 hl (by decide) rfl (fun ls hl => ?_)
          refine lv_iload_n hx hb dX11_isRest_59 rfl (lv_at hl 1 rfl) ?_
          refine lv_if_eq (tgt := 72) hx hb dX11_isRest_60 (by decide) (fun _ => ?_) (fun h_26 => absurd (by decide) h_26)
          refine lv_iconst (v := 0) hx hb dX11_isRest_72 (by decide) ?_
          exact eI hQ X hr hlocks hP hD hS () [] (by decide) rfl rfl (show (0 ≤ (0 : Int32).toInt ∧ (0 : Int32).toInt ≤ 1) from (by first | decide | (have h9_0 : (0 : Int32).toInt = 0 := (by decide); omega) | (refine ⟨by decide, ?_⟩; omega) | omega)) (Nat.le_of_ble_eq_true rfl) (Nat.le_of_ble_eq_true rfl) dX11_isRest_73
        · have h_25 : r_22.toInt ≤ r_12.toInt := c_nlt h_25
          refine lv_iconst (v := 1) hx hb dX11_isRest_52 (by decide) ?_
          refine lv_goto (tgt := 57) hx hb dX11_isRest_53 (by decide) ?_
          refine lv_istore (lv' := [(4, .int 1), (3, .int 0), (0, .int p1), (1, .int p2), (2, .int p3)]) hx hb dX11_isRest_57 hl (by decide) rfl (fun ls hl => ?_)
          refine lv_iload_n hx hb dX11_isRest_59 rfl (lv_at hl 1 rfl) ?_
          refine lv_if_eq (tgt := 72) hx hb dX11_isRest_60 (by decide) (fun _ => ?_) (fun h_27 => absurd (by decide) h_27)
          refine lv_iconst (v := 0) hx hb dX11_isRest_72 (by decide) ?_
          exact eI hQ X hr hlocks hP hD hS () [] (by decide) rfl rfl (show (0 ≤ (0 : Int32).toInt ∧ (0 : Int32).toInt ≤ 1) from (by first | decide | (have h9_0 : (0 : Int32).toInt = 0 := (by decide); omega) | (refine ⟨by decide, ?_⟩; omega) | omega)) (Nat.le_of_ble_eq_true rfl) (Nat.le_of_ble_eq_true rfl) dX11_isRest_73
    · have h_11 : r_8.toInt ≤ r_4.toInt := c_nlt h_11
      refine lv_iconst (v := 1) hx hb dX11_isRest_23 (by decide) ?_
      refine lv_goto (tgt := 28) hx hb dX11_isRest_24 (by decide) ?_
      refine lv_istore_n (lv' := [(3, .int 1), (0, .int p1), (1, .int p2), (2, .int p3)]) hx hb dX11_isRest_28 rfl hl (by decide) rfl (fun ls hl => ?_)
      refine lv_iload_n hx hb dX11_isRest_29 rfl (lv_at hl 1 rfl) ?_
      refine lv_iload_n hx hb dX11_isRest_30 rfl (lv_at hl 3 rfl) ?_
      refine lv_iload_n hx hb dX11_isRest_31 rfl (lv_at hl 2 rfl) ?_
      refine sl_Ic (rS_I (As := [.int p1, .int p3, .int p2]) (rest := []) X hp_st (fun _ _ _ h => h) (sX11_pay l dC dI cy p1 p3 p2) kX11_pay w_1151 mX11_321 hP hD hS hA [] (by decide) rfl hl rfl rfl (Nat.le_of_ble_eq_true rfl) dX11_isRest_32 ⟨(Nat.le_of_ble_eq_true rfl), (Nat.le_of_ble_eq_true rfl)⟩ ⟨(Nat.le_of_ble_eq_true rfl), (Nat.le_of_ble_eq_true rfl)⟩) hP hD hS hA [] [] rfl rfl rfl (fun r_28 u_30 H locs k_29 hP hD hS => ?_)
      have hPD := vPD (ws' := []) hP hD rfl
      have hP := hPD.1
      have hD := hPD.2
      refine lv_iload_n hx hb dX11_isRest_35 rfl (lv_at hl 1 rfl) ?_
      refine lv_iload_n hx hb dX11_isRest_36 rfl (lv_at hl 3 rfl) ?_
      refine lv_if_ne (tgt := 44) hx hb dX11_isRest_37 (by decide) (fun h_31 => ?_) (fun h_31 => ?_)
      · have h_31 : p3.toInt ≠ 0 := c_ne h_31
        refine lv_iconst (v := 0) hx hb dX11_isRest_44 (by decide) ?_
        refine lv_iload_n hx hb dX11_isRest_45 rfl (lv_at hl 2 rfl) ?_
        refine sl_Ic (rS_I (As := [.int p1, .int 0, .int p2]) (rest := [.int r_28]) X hp_st (fun _ _ _ h => h) (sX11_pay l dC dI cy p1 0 p2) kX11_pay w_1151 mX11_321 hP hD hS hA [] (by decide) rfl hl rfl rfl (Nat.le_of_ble_eq_true rfl) dX11_isRest_46 ⟨(Nat.le_of_ble_eq_true rfl), (Nat.le_of_ble_eq_true rfl)⟩ ⟨(Nat.le_of_ble_eq_true rfl), (Nat.le_of_ble_eq_true rfl)⟩) hP hD hS hA [] [] rfl rfl rfl (fun r_32 u_34 H locs k_33 hP hD hS => ?_)
        have hPD := vPD (ws' := []) hP hD rfl
        have hP := hPD.1
        have hD := hPD.2
        refine lv_icmp_lt (tgt := 56) hx hb dX11_isRest_49 (by decide) (fun h_35 => ?_) (fun h_35 => ?_)
        · have h_35 : r_28.toInt < r_32.toInt := c_lt h_35
          refine lv_iconst (v := 0) hx hb dX11_isRest_56 (by decide) ?_
          refine lv_istore (lv' := [(4, .int 0), (3, .int 1), (0, .int p1), (1, .int p2), (2, .int p3)]) hx hb dX11_isRest_57 hl (by decide) rfl (fun ls hl => ?_)
          refine lv_iload_n hx hb dX11_isRest_59 rfl (lv_at hl 1 rfl) ?_
          refine lv_if_eq (tgt := 72) hx hb dX11_isRest_60 (by decide) (fun h_36 => absurd h_36 (by decide)) (fun _ => ?_)
          refine lv_iload hx hb dX11_isRest_63 (lv_at hl 0 rfl) ?_
          refine lv_if_eq (tgt := 72) hx hb dX11_isRest_65 (by decide) (fun _ => ?_) (fun h_37 => absurd (by decide) h_37)
          refine lv_iconst (v := 0) hx hb dX11_isRest_72 (by decide) ?_
          exact eI hQ X hr hlocks hP hD hS () [] (by decide) rfl rfl (show (0 ≤ (0 : Int32).toInt ∧ (0 : Int32).toInt ≤ 1) from (by first | decide | (have h9_0 : (0 : Int32).toInt = 0 := (by decide); omega) | (refine ⟨by decide, ?_⟩; omega) | omega)) (Nat.le_of_ble_eq_true rfl) (Nat.le_of_ble_eq_true rfl) dX11_isRest_73
        · have h_35 : r_32.toInt ≤ r_28.toInt := c_nlt h_35
          refine lv_iconst (v := 1) hx hb dX11_isRest_52 (by decide) ?_
          refine lv_goto (tgt := 57) hx hb dX11_isRest_53 (by decide) ?_
          refine lv_istore (lv' := [(4, .int 1), (3, .int 1), (0, .int p1), (1, .int p2), (2, .int p3)]) hx hb dX11_isRest_57 hl (by decide) rfl (fun ls hl => ?_)
          refine lv_iload_n hx hb dX11_isRest_59 rfl (lv_at hl 1 rfl) ?_
          refine lv_if_eq (tgt := 72) hx hb dX11_isRest_60 (by decide) (fun h_38 => absurd h_38 (by decide)) (fun _ => ?_)
          refine lv_iload hx hb dX11_isRest_63 (lv_at hl 0 rfl) ?_
          refine lv_if_eq (tgt := 72) hx hb dX11_isRest_65 (by decide) (fun h_39 => absurd h_39 (by decide)) (fun _ => ?_)
          refine lv_iconst (v := 1) hx hb dX11_isRest_68 (by decide) ?_
          refine lv_goto (tgt := 73) hx hb dX11_isRest_69 (by decide) ?_
          exact eI hQ X hr hlocks hP hD hS () [] (by decide) rfl rfl (show (0 ≤ (1 : Int32).toInt ∧ (1 : Int32).toInt ≤ 1) from (by first | decide | (have h9_0 : (1 : Int32).toInt = 1 := (by decide); omega) | (refine ⟨by decide, ?_⟩; omega) | omega)) (Nat.le_of_ble_eq_true rfl) (Nat.le_of_ble_eq_true rfl) dX11_isRest_73
      · have h_31 : p3.toInt = 0 := c_eq h_31
        refine lv_iconst (v := 1) hx hb dX11_isRest_40 (by decide) ?_
        refine lv_goto (tgt := 45) hx hb dX11_isRest_41 (by decide) ?_
        refine lv_iload_n hx hb dX11_isRest_45 rfl (lv_at hl 2 rfl) ?_
        refine sl_Ic (rS_I (As := [.int p1, .int 1, .int p2]) (rest := [.int r_28]) X hp_st (fun _ _ _ h => h) (sX11_pay l dC dI cy p1 1 p2) kX11_pay w_1151 mX11_321 hP hD hS hA [] (by decide) rfl hl rfl rfl (Nat.le_of_ble_eq_true rfl) dX11_isRest_46 ⟨(Nat.le_of_ble_eq_true rfl), (Nat.le_of_ble_eq_true rfl)⟩ ⟨(Nat.le_of_ble_eq_true rfl), (Nat.le_of_ble_eq_true rfl)⟩) hP hD hS hA [] [] rfl rfl rfl (fun r_40 u_42 H locs k_41 hP hD hS => ?_)
        have hPD := vPD (ws' := []) hP hD rfl
        have hP := hPD.1
        have hD := hPD.2
        refine lv_icmp_lt (tgt := 56) hx hb dX11_isRest_49 (by decide) (fun h_43 => ?_) (fun h_43 => ?_)
        · have h_43 : r_28.toInt < r_40.toInt := c_lt h_43
          refine lv_iconst (v := 0) hx hb dX11_isRest_56 (by decide) ?_
          refine lv_istore (lv' := [(4, .int 0), (3, .int 1), (0, .int p1), (1, .int p2), (2, .int p3)]) hx hb dX11_isRest_57 hl (by decide) rfl (fun ls hl => ?_)
          refine lv_iload_n hx hb dX11_isRest_59 rfl (lv_at hl 1 rfl) ?_
          refine lv_if_eq (tgt := 72) hx hb dX11_isRest_60 (by decide) (fun h_44 => absurd h_44 (by decide)) (fun _ => ?_)
          refine lv_iload hx hb dX11_isRest_63 (lv_at hl 0 rfl) ?_
          refine lv_if_eq (tgt := 72) hx hb dX11_isRest_65 (by decide) (fun _ => ?_) (fun h_45 => absurd (by decide) h_45)
          refine lv_iconst (v := 0) hx hb dX11_isRest_72 (by decide) ?_
          exact eI hQ X hr hlocks hP hD hS () [] (by decide) rfl rfl (show (0 ≤ (0 : Int32).toInt ∧ (0 : Int32).toInt ≤ 1) from (by first | decide | (have h9_0 : (0 : Int32).toInt = 0 := (by decide); omega) | (refine ⟨by decide, ?_⟩; omega) | omega)) (Nat.le_of_ble_eq_true rfl) (Nat.le_of_ble_eq_true rfl) dX11_isRest_73
        · have h_43 : r_40.toInt ≤ r_28.toInt := c_nlt h_43
          refine lv_iconst (v := 1) hx hb dX11_isRest_52 (by decide) ?_
          refine lv_goto (tgt := 57) hx hb dX11_isRest_53 (by decide) ?_
          refine lv_istore (lv' := [(4, .int 1), (3, .int 1), (0, .int p1), (1, .int p2), (2, .int p3)]) hx hb dX11_isRest_57 hl (by decide) rfl (fun ls hl => ?_)
          refine lv_iload_n hx hb dX11_isRest_59 rfl (lv_at hl 1 rfl) ?_
          refine lv_if_eq (tgt := 72) hx hb dX11_isRest_60 (by decide) (fun h_46 => absurd h_46 (by decide)) (fun _ => ?_)
          refine lv_iload hx hb dX11_isRest_63 (lv_at hl 0 rfl) ?_
          refine lv_if_eq (tgt := 72) hx hb dX11_isRest_65 (by decide) (fun h_47 => absurd h_47 (by decide)) (fun _ => ?_)
          refine lv_iconst (v := 1) hx hb dX11_isRest_68 (by decide) ?_
          refine lv_goto (tgt := 73) hx hb dX11_isRest_69 (by decide) ?_
          exact eI hQ X hr hlocks hP hD hS () [] (by decide) rfl rfl (show (0 ≤ (1 : Int32).toInt ∧ (1 : Int32).toInt ≤ 1) from (by first | decide | (have h9_0 : (1 : Int32).toInt = 1 := (by decide); omega) | (refine ⟨by decide, ?_⟩; omega) | omega)) (Nat.le_of_ble_eq_true rfl) (Nat.le_of_ble_eq_true rfl) dX11_isRest_73
  · have h_7 : p2.toInt = 0 := c_eq h_7
    refine lv_iconst (v := 1) hx hb dX11_isRest_11 (by decide) ?_
    refine lv_goto (tgt := 16) hx hb dX11_isRest_12 (by decide) ?_
    refine lv_iload_n hx hb dX11_isRest_16 rfl (lv_at hl 2 rfl) ?_
    refine sl_Ic (rS_I (As := [.int p1, .int 1, .int p3]) (rest := [.int r_4]) X hp_st (fun _ _ _ h => h) (sX11_pay l dC dI cy p1 1 p3) kX11_pay w_1151 mX11_321 hP hD hS hA [] (by decide) rfl hl rfl rfl (Nat.le_of_ble_eq_true rfl) dX11_isRest_17 ⟨(Nat.le_of_ble_eq_true rfl), (Nat.le_of_ble_eq_true rfl)⟩ ⟨(Nat.le_of_ble_eq_true rfl), (Nat.le_of_ble_eq_true rfl)⟩) hP hD hS hA [] [] rfl rfl rfl (fun r_48 u_50 H locs k_49 hP hD hS => ?_)
    have hPD := vPD (ws' := []) hP hD rfl
    have hP := hPD.1
    have hD := hPD.2
    refine lv_icmp_lt (tgt := 27) hx hb dX11_isRest_20 (by decide) (fun h_51 => ?_) (fun h_51 => ?_)
    · have h_51 : r_4.toInt < r_48.toInt := c_lt h_51
      refine lv_iconst (v := 0) hx hb dX11_isRest_27 (by decide) ?_
      refine lv_istore_n (lv' := [(3, .int 0), (0, .int p1), (1, .int p2), (2, .int p3)]) hx hb dX11_isRest_28 rfl hl (by decide) rfl (fun ls hl => ?_)
      refine lv_iload_n hx hb dX11_isRest_29 rfl (lv_at hl 1 rfl) ?_
      refine lv_iload_n hx hb dX11_isRest_30 rfl (lv_at hl 3 rfl) ?_
      refine lv_iload_n hx hb dX11_isRest_31 rfl (lv_at hl 2 rfl) ?_
      refine sl_Ic (rS_I (As := [.int p1, .int p3, .int p2]) (rest := []) X hp_st (fun _ _ _ h => h) (sX11_pay l dC dI cy p1 p3 p2) kX11_pay w_1151 mX11_321 hP hD hS hA [] (by decide) rfl hl rfl rfl (Nat.le_of_ble_eq_true rfl) dX11_isRest_32 ⟨(Nat.le_of_ble_eq_true rfl), (Nat.le_of_ble_eq_true rfl)⟩ ⟨(Nat.le_of_ble_eq_true rfl), (Nat.le_of_ble_eq_true rfl)⟩) hP hD hS hA [] [] rfl rfl rfl (fun r_52 u_54 H locs k_53 hP hD hS => ?_)
      have hPD := vPD (ws' := []) hP hD rfl
      have hP := hPD.1
      have hD := hPD.2
      refine lv_iload_n hx hb dX11_isRest_35 rfl (lv_at hl 1 rfl) ?_
      refine lv_iload_n hx hb dX11_isRest_36 rfl (lv_at hl 3 rfl) ?_
      refine lv_if_ne (tgt := 44) hx hb dX11_isRest_37 (by decide) (fun h_55 => ?_) (fun h_55 => ?_)
      · have h_55 : p3.toInt ≠ 0 := c_ne h_55
        refine lv_iconst (v := 0) hx hb dX11_isRest_44 (by decide) ?_
        refine lv_iload_n hx hb dX11_isRest_45 rfl (lv_at hl 2 rfl) ?_
        refine sl_Ic (rS_I (As := [.int p1, .int 0, .int p2]) (rest := [.int r_52]) X hp_st (fun _ _ _ h => h) (sX11_pay l dC dI cy p1 0 p2) kX11_pay w_1151 mX11_321 hP hD hS hA [] (by decide) rfl hl rfl rfl (Nat.le_of_ble_eq_true rfl) dX11_isRest_46 ⟨(Nat.le_of_ble_eq_true rfl), (Nat.le_of_ble_eq_true rfl)⟩ ⟨(Nat.le_of_ble_eq_true rfl), (Nat.le_of_ble_eq_true rfl)⟩) hP hD hS hA [] [] rfl rfl rfl (fun r_56 u_58 H locs k_57 hP hD hS => ?_)
        have hPD := vPD (ws' := []) hP hD rfl
        have hP := hPD.1
        have hD := hPD.2
        refine lv_icmp_lt (tgt := 56) hx hb dX11_isRest_49 (by decide) (fun h_59 => ?_) (fun h_59 => ?_)
        · have h_59 : r_52.toInt < r_56.toInt := c_lt h_59
          refine lv_iconst (v := 0) hx hb dX11_isRest_56 (by decide) ?_
          refine lv_istore (lv' := [(4, .int 0), (3, .int 0), (0, .int p1), (1, .int p2), (2, .int p3)]) hx hb dX11_isRest_57 hl (by decide) rfl (fun ls hl => ?_)
          refine lv_iload_n hx hb dX11_isRest_59 rfl (lv_at hl 1 rfl) ?_
          refine lv_if_eq (tgt := 72) hx hb dX11_isRest_60 (by decide) (fun _ => ?_) (fun h_60 => absurd (by decide) h_60)
          refine lv_iconst (v := 0) hx hb dX11_isRest_72 (by decide) ?_
          exact eI hQ X hr hlocks hP hD hS () [] (by decide) rfl rfl (show (0 ≤ (0 : Int32).toInt ∧ (0 : Int32).toInt ≤ 1) from (by first | decide | (have h9_0 : (0 : Int32).toInt = 0 := (by decide); omega) | (refine ⟨by decide, ?_⟩; omega) | omega)) (Nat.le_of_ble_eq_true rfl) (Nat.le_of_ble_eq_true rfl) dX11_isRest_73
        · have h_59 : r_56.toInt ≤ r_52.toInt := c_nlt h_59
          refine lv_iconst (v := 1) hx hb dX11_isRest_52 (by decide) ?_
          refine lv_goto (tgt := 57) hx hb dX11_isRest_53 (by decide) ?_
          refine lv_istore (lv' := [(4, .int 1), (3, .int 0), (0, .int p1), (1, .int p2), (2, .int p3)]) hx hb dX11_isRest_57 hl (by decide) rfl (fun ls hl => ?_)
          refine lv_iload_n hx hb dX11_isRest_59 rfl (lv_at hl 1 rfl) ?_
          refine lv_if_eq (tgt := 72) hx hb dX11_isRest_60 (by decide) (fun _ => ?_) (fun h_61 => absurd (by decide) h_61)
          refine lv_iconst (v := 0) hx hb dX11_isRest_72 (by decide) ?_
          exact eI hQ X hr hlocks hP hD hS () [] (by decide) rfl rfl (show (0 ≤ (0 : Int32).toInt ∧ (0 : Int32).toInt ≤ 1) from (by first | decide | (have h9_0 : (0 : Int32).toInt = 0 := (by decide); omega) | (refine ⟨by decide, ?_⟩; omega) | omega)) (Nat.le_of_ble_eq_true rfl) (Nat.le_of_ble_eq_true rfl) dX11_isRest_73
      · have h_55 : p3.toInt = 0 := c_eq h_55
        refine lv_iconst (v := 1) hx hb dX11_isRest_40 (by decide) ?_
        refine lv_goto (tgt := 45) hx hb dX11_isRest_41 (by decide) ?_
        refine lv_iload_n hx hb dX11_isRest_45 rfl (lv_at hl 2 rfl) ?_
        refine sl_Ic (rS_I (As := [.int p1, .int 1, .int p2]) (rest := [.int r_52]) X hp_st (fun _ _ _ h => h) (sX11_pay l dC dI cy p1 1 p2) kX11_pay w_1151 mX11_321 hP hD hS hA [] (by decide) rfl hl rfl rfl (Nat.le_of_ble_eq_true rfl) dX11_isRest_46 ⟨(Nat.le_of_ble_eq_true rfl), (Nat.le_of_ble_eq_true rfl)⟩ ⟨(Nat.le_of_ble_eq_true rfl), (Nat.le_of_ble_eq_true rfl)⟩) hP hD hS hA [] [] rfl rfl rfl (fun r_62 u_64 H locs k_63 hP hD hS => ?_)
        have hPD := vPD (ws' := []) hP hD rfl
        have hP := hPD.1
        have hD := hPD.2
        refine lv_icmp_lt (tgt := 56) hx hb dX11_isRest_49 (by decide) (fun h_65 => ?_) (fun h_65 => ?_)
        · have h_65 : r_52.toInt < r_62.toInt := c_lt h_65
          refine lv_iconst (v := 0) hx hb dX11_isRest_56 (by decide) ?_
          refine lv_istore (lv' := [(4, .int 0), (3, .int 0), (0, .int p1), (1, .int p2), (2, .int p3)]) hx hb dX11_isRest_57 hl (by decide) rfl (fun ls hl => ?_)
          refine lv_iload_n hx hb dX11_isRest_59 rfl (lv_at hl 1 rfl) ?_
          refine lv_if_eq (tgt := 72) hx hb dX11_isRest_60 (by decide) (fun _ => ?_) (fun h_66 => absurd (by decide) h_66)
          refine lv_iconst (v := 0) hx hb dX11_isRest_72 (by decide) ?_
          exact eI hQ X hr hlocks hP hD hS () [] (by decide) rfl rfl (show (0 ≤ (0 : Int32).toInt ∧ (0 : Int32).toInt ≤ 1) from (by first | decide | (have h9_0 : (0 : Int32).toInt = 0 := (by decide); omega) | (refine ⟨by decide, ?_⟩; omega) | omega)) (Nat.le_of_ble_eq_true rfl) (Nat.le_of_ble_eq_true rfl) dX11_isRest_73
        · have h_65 : r_62.toInt ≤ r_52.toInt := c_nlt h_65
          refine lv_iconst (v := 1) hx hb dX11_isRest_52 (by decide) ?_
          refine lv_goto (tgt := 57) hx hb dX11_isRest_53 (by decide) ?_
          refine lv_istore (lv' := [(4, .int 1), (3, .int 0), (0, .int p1), (1, .int p2), (2, .int p3)]) hx hb dX11_isRest_57 hl (by decide) rfl (fun ls hl => ?_)
          refine lv_iload_n hx hb dX11_isRest_59 rfl (lv_at hl 1 rfl) ?_
          refine lv_if_eq (tgt := 72) hx hb dX11_isRest_60 (by decide) (fun _ => ?_) (fun h_67 => absurd (by decide) h_67)
          refine lv_iconst (v := 0) hx hb dX11_isRest_72 (by decide) ?_
          exact eI hQ X hr hlocks hP hD hS () [] (by decide) rfl rfl (show (0 ≤ (0 : Int32).toInt ∧ (0 : Int32).toInt ≤ 1) from (by first | decide | (have h9_0 : (0 : Int32).toInt = 0 := (by decide); omega) | (refine ⟨by decide, ?_⟩; omega) | omega)) (Nat.le_of_ble_eq_true rfl) (Nat.le_of_ble_eq_true rfl) dX11_isRest_73
    · have h_51 : r_48.toInt ≤ r_4.toInt := c_nlt h_51
      refine lv_iconst (v := 1) hx hb dX11_isRest_23 (by decide) ?_
      refine lv_goto (tgt := 28) hx hb dX11_isRest_24 (by decide) ?_
      refine lv_istore_n (lv' := [(3, .int 1), (0, .int p1), (1, .int p2), (2, .int p3)]) hx hb dX11_isRest_28 rfl hl (by decide) rfl (fun ls hl => ?_)
      refine lv_iload_n hx hb dX11_isRest_29 rfl (lv_at hl 1 rfl) ?_
      refine lv_iload_n hx hb dX11_isRest_30 rfl (lv_at hl 3 rfl) ?_
      refine lv_iload_n hx hb dX11_isRest_31 rfl (lv_at hl 2 rfl) ?_
      refine sl_Ic (rS_I (As := [.int p1, .int p3, .int p2]) (rest := []) X hp_st (fun _ _ _ h => h) (sX11_pay l dC dI cy p1 p3 p2) kX11_pay w_1151 mX11_321 hP hD hS hA [] (by decide) rfl hl rfl rfl (Nat.le_of_ble_eq_true rfl) dX11_isRest_32 ⟨(Nat.le_of_ble_eq_true rfl), (Nat.le_of_ble_eq_true rfl)⟩ ⟨(Nat.le_of_ble_eq_true rfl), (Nat.le_of_ble_eq_true rfl)⟩) hP hD hS hA [] [] rfl rfl rfl (fun r_68 u_70 H locs k_69 hP hD hS => ?_)
      have hPD := vPD (ws' := []) hP hD rfl
      have hP := hPD.1
      have hD := hPD.2
      refine lv_iload_n hx hb dX11_isRest_35 rfl (lv_at hl 1 rfl) ?_
      refine lv_iload_n hx hb dX11_isRest_36 rfl (lv_at hl 3 rfl) ?_
      refine lv_if_ne (tgt := 44) hx hb dX11_isRest_37 (by decide) (fun h_71 => ?_) (fun h_71 => ?_)
      · have h_71 : p3.toInt ≠ 0 := c_ne h_71
        refine lv_iconst (v := 0) hx hb dX11_isRest_44 (by decide) ?_
        refine lv_iload_n hx hb dX11_isRest_45 rfl (lv_at hl 2 rfl) ?_
        refine sl_Ic (rS_I (As := [.int p1, .int 0, .int p2]) (rest := [.int r_68]) X hp_st (fun _ _ _ h => h) (sX11_pay l dC dI cy p1 0 p2) kX11_pay w_1151 mX11_321 hP hD hS hA [] (by decide) rfl hl rfl rfl (Nat.le_of_ble_eq_true rfl) dX11_isRest_46 ⟨(Nat.le_of_ble_eq_true rfl), (Nat.le_of_ble_eq_true rfl)⟩ ⟨(Nat.le_of_ble_eq_true rfl), (Nat.le_of_ble_eq_true rfl)⟩) hP hD hS hA [] [] rfl rfl rfl (fun r_72 u_74 H locs k_73 hP hD hS => ?_)
        have hPD := vPD (ws' := []) hP hD rfl
        have hP := hPD.1
        have hD := hPD.2
        refine lv_icmp_lt (tgt := 56) hx hb dX11_isRest_49 (by decide) (fun h_75 => ?_) (fun h_75 => ?_)
        · have h_75 : r_68.toInt < r_72.toInt := c_lt h_75
          refine lv_iconst (v := 0) hx hb dX11_isRest_56 (by decide) ?_
          refine lv_istore (lv' := [(4, .int 0), (3, .int 1), (0, .int p1), (1, .int p2), (2, .int p3)]) hx hb dX11_isRest_57 hl (by decide) rfl (fun ls hl => ?_)
          refine lv_iload_n hx hb dX11_isRest_59 rfl (lv_at hl 1 rfl) ?_
          refine lv_if_eq (tgt := 72) hx hb dX11_isRest_60 (by decide) (fun h_76 => absurd h_76 (by decide)) (fun _ => ?_)
          refine lv_iload hx hb dX11_isRest_63 (lv_at hl 0 rfl) ?_
          refine lv_if_eq (tgt := 72) hx hb dX11_isRest_65 (by decide) (fun _ => ?_) (fun h_77 => absurd (by decide) h_77)
          refine lv_iconst (v := 0) hx hb dX11_isRest_72 (by decide) ?_
          exact eI hQ X hr hlocks hP hD hS () [] (by decide) rfl rfl (show (0 ≤ (0 : Int32).toInt ∧ (0 : Int32).toInt ≤ 1) from (by first | decide | (have h9_0 : (0 : Int32).toInt = 0 := (by decide); omega) | (refine ⟨by decide, ?_⟩; omega) | omega)) (Nat.le_of_ble_eq_true rfl) (Nat.le_of_ble_eq_true rfl) dX11_isRest_73
        · have h_75 : r_72.toInt ≤ r_68.toInt := c_nlt h_75
          refine lv_iconst (v := 1) hx hb dX11_isRest_52 (by decide) ?_
          refine lv_goto (tgt := 57) hx hb dX11_isRest_53 (by decide) ?_
          refine lv_istore (lv' := [(4, .int 1), (3, .int 1), (0, .int p1), (1, .int p2), (2, .int p3)]) hx hb dX11_isRest_57 hl (by decide) rfl (fun ls hl => ?_)
          refine lv_iload_n hx hb dX11_isRest_59 rfl (lv_at hl 1 rfl) ?_
          refine lv_if_eq (tgt := 72) hx hb dX11_isRest_60 (by decide) (fun h_78 => absurd h_78 (by decide)) (fun _ => ?_)
          refine lv_iload hx hb dX11_isRest_63 (lv_at hl 0 rfl) ?_
          refine lv_if_eq (tgt := 72) hx hb dX11_isRest_65 (by decide) (fun h_79 => absurd h_79 (by decide)) (fun _ => ?_)
          refine lv_iconst (v := 1) hx hb dX11_isRest_68 (by decide) ?_
          refine lv_goto (tgt := 73) hx hb dX11_isRest_69 (by decide) ?_
          exact eI hQ X hr hlocks hP hD hS () [] (by decide) rfl rfl (show (0 ≤ (1 : Int32).toInt ∧ (1 : Int32).toInt ≤ 1) from (by first | decide | (have h9_0 : (1 : Int32).toInt = 1 := (by decide); omega) | (refine ⟨by decide, ?_⟩; omega) | omega)) (Nat.le_of_ble_eq_true rfl) (Nat.le_of_ble_eq_true rfl) dX11_isRest_73
      · have h_71 : p3.toInt = 0 := c_eq h_71
        refine lv_iconst (v := 1) hx hb dX11_isRest_40 (by decide) ?_
        refine lv_goto (tgt := 45) hx hb dX11_isRest_41 (by decide) ?_
        refine lv_iload_n hx hb dX11_isRest_45 rfl (lv_at hl 2 rfl) ?_
        refine sl_Ic (rS_I (As := [.int p1, .int 1, .int p2]) (rest := [.int r_68]) X hp_st (fun _ _ _ h => h) (sX11_pay l dC dI cy p1 1 p2) kX11_pay w_1151 mX11_321 hP hD hS hA [] (by decide) rfl hl rfl rfl (Nat.le_of_ble_eq_true rfl) dX11_isRest_46 ⟨(Nat.le_of_ble_eq_true rfl), (Nat.le_of_ble_eq_true rfl)⟩ ⟨(Nat.le_of_ble_eq_true rfl), (Nat.le_of_ble_eq_true rfl)⟩) hP hD hS hA [] [] rfl rfl rfl (fun r_80 u_82 H locs k_81 hP hD hS => ?_)
        have hPD := vPD (ws' := []) hP hD rfl
        have hP := hPD.1
        have hD := hPD.2
        refine lv_icmp_lt (tgt := 56) hx hb dX11_isRest_49 (by decide) (fun h_83 => ?_) (fun h_83 => ?_)
        · have h_83 : r_68.toInt < r_80.toInt := c_lt h_83
          refine lv_iconst (v := 0) hx hb dX11_isRest_56 (by decide) ?_
          refine lv_istore (lv' := [(4, .int 0), (3, .int 1), (0, .int p1), (1, .int p2), (2, .int p3)]) hx hb dX11_isRest_57 hl (by decide) rfl (fun ls hl => ?_)
          refine lv_iload_n hx hb dX11_isRest_59 rfl (lv_at hl 1 rfl) ?_
          refine lv_if_eq (tgt := 72) hx hb dX11_isRest_60 (by decide) (fun h_84 => absurd h_84 (by decide)) (fun _ => ?_)
          refine lv_iload hx hb dX11_isRest_63 (lv_at hl 0 rfl) ?_
          refine lv_if_eq (tgt := 72) hx hb dX11_isRest_65 (by decide) (fun _ => ?_) (fun h_85 => absurd (by decide) h_85)
          refine lv_iconst (v := 0) hx hb dX11_isRest_72 (by decide) ?_
          exact eI hQ X hr hlocks hP hD hS () [] (by decide) rfl rfl (show (0 ≤ (0 : Int32).toInt ∧ (0 : Int32).toInt ≤ 1) from (by first | decide | (have h9_0 : (0 : Int32).toInt = 0 := (by decide); omega) | (refine ⟨by decide, ?_⟩; omega) | omega)) (Nat.le_of_ble_eq_true rfl) (Nat.le_of_ble_eq_true rfl) dX11_isRest_73
        · have h_83 : r_80.toInt ≤ r_68.toInt := c_nlt h_83
          refine lv_iconst (v := 1) hx hb dX11_isRest_52 (by decide) ?_
          refine lv_goto (tgt := 57) hx hb dX11_isRest_53 (by decide) ?_
          refine lv_istore (lv' := [(4, .int 1), (3, .int 1), (0, .int p1), (1, .int p2), (2, .int p3)]) hx hb dX11_isRest_57 hl (by decide) rfl (fun ls hl => ?_)
          refine lv_iload_n hx hb dX11_isRest_59 rfl (lv_at hl 1 rfl) ?_
          refine lv_if_eq (tgt := 72) hx hb dX11_isRest_60 (by decide) (fun h_86 => absurd h_86 (by decide)) (fun _ => ?_)
          refine lv_iload hx hb dX11_isRest_63 (lv_at hl 0 rfl) ?_
          refine lv_if_eq (tgt := 72) hx hb dX11_isRest_65 (by decide) (fun h_87 => absurd h_87 (by decide)) (fun _ => ?_)
          refine lv_iconst (v := 1) hx hb dX11_isRest_68 (by decide) ?_
          refine lv_goto (tgt := 73) hx hb dX11_isRest_69 (by decide) ?_
          exact eI hQ X hr hlocks hP hD hS () [] (by decide) rfl rfl (show (0 ≤ (1 : Int32).toInt ∧ (1 : Int32).toInt ≤ 1) from (by first | decide | (have h9_0 : (1 : Int32).toInt = 1 := (by decide); omega) | (refine ⟨by decide, ?_⟩; omega) | omega)) (Nat.le_of_ble_eq_true rfl) (Nat.le_of_ble_eq_true rfl) dX11_isRest_73
