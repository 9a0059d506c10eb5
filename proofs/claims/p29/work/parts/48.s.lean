section
set_option maxHeartbeats 4000000 in
set_option maxRecDepth 100000 in
theorem g7_hasName (l : Launch) (dC : Nat → ClassId) (dI : Nat → Nat → Nat) (cy : Nat → ClassId) (h0 : Nat) (k_ground : Nat) (k_errs : Int32) (k_slips : Int32) (k_rows : Int32) (k_unsureCount : Int32) (k_unsure : Nat) (k_walkers : Int32) (k_names : Nat) (k_kinds : Nat) (k_starts : Nat) (k_goals : Nat) (k_walks : Int32) (k_walkStarts : Nat) (k_walkSteps : Nat) (k_walkFell : Nat) (k_namesf : Nat → Int64) (p1 : Int64) (hk_rows : 0 ≤ k_rows.toInt ∧ k_rows.toInt ≤ 4) (hk_unsureCount : 0 ≤ k_unsureCount.toInt ∧ k_unsureCount.toInt ≤ 5) (hk_walkers : 0 ≤ k_walkers.toInt ∧ k_walkers.toInt ≤ 4) (hk_walks : 0 ≤ k_walks.toInt ∧ k_walks.toInt ≤ 6) : ctI l dC dI cy hp yX7_hasName cX7_hasName 4 .boolean ({ frames := 0, cells := 0, slots := 0, locals := 0 } : Room) [.ref h0, .long p1] [(h0, .inr (7, [.ref k_ground, .int k_errs, .int k_slips, .int k_rows, .int k_unsureCount, .ref k_unsure, .int k_walkers, .ref k_names, .ref k_kinds, .ref k_starts, .ref k_goals, .int k_walks, .ref k_walkStarts, .ref k_walkSteps, .ref k_walkFell])), (k_names, .inl (cy 2, 4, .inr (.inl k_namesf)))] (S := Unit) (fun r _ => (0 ≤ r.toInt ∧ r.toInt ≤ 1) ∧ (hnP k_namesf k_walkers.toInt p1 r.toInt)) (fun _ => [(h0, .inr (7, [.ref k_ground, .int k_errs, .int k_slips, .int k_rows, .int k_unsureCount, .ref k_unsure, .int k_walkers, .ref k_names, .ref k_kinds, .ref k_starts, .ref k_goals, .int k_walks, .ref k_walkStarts, .ref k_walkSteps, .ref k_walkFell])), (k_names, .inl (cy 2, 4, .inr (.inl k_namesf)))]) := by
  refine ctI.of (by decide +kernel) (Nat.le_of_ble_eq_true rfl) ?_
  intro p e s m args below meth c A ls Q hQ X hr hlocks hin hA hP hD hS hl
  have hx := X.1
  have hb := X.2.1
  have hK := X.2.2.2.2.2.1
  have hl : lv_has ls 4 [(0, .ref h0), (1, .long p1)] := hl
  refine lv_iconst (v := 0) hx hb dX7_hasName_0 (by decide) ?_
  refine lv_istore_n (lv' := [(3, .int 0), (0, .ref h0), (1, .long p1)]) hx hb dX7_hasName_1 rfl hl (by decide) rfl (fun ls hl => ?_)
  have lp_1 : ∀ (nlp_1 : Nat) (i_2 : Int32) (H : Heap) (locs : List Loc) (ls : Array Slot), (0 ≤ i_2.toInt ∧ i_2.toInt ≤ 4) → (ntl k_namesf i_2.toInt p1) → (5 - i_2.toInt ≤ (nlp_1 : Int)) → va_P (dC, dI) vwCl [(h0, .inr (7, [.ref k_ground, .int k_errs, .int k_slips, .int k_rows, .int k_unsureCount, .ref k_unsure, .int k_walkers, .ref k_names, .ref k_kinds, .ref k_starts, .ref k_goals, .int k_walks, .ref k_walkStarts, .ref k_walkSteps, .ref k_walkFell])), (k_names, .inl (cy 2, 4, .inr (.inl k_namesf)))] H → va_D A [(h0, .inr (7, [.ref k_ground, .int k_errs, .int k_slips, .int k_rows, .int k_unsureCount, .ref k_unsure, .int k_walkers, .ref k_names, .ref k_kinds, .ref k_starts, .ref k_goals, .int k_walks, .ref k_walkStarts, .ref k_walkSteps, .ref k_walkFell])), (k_names, .inl (cy 2, 4, .inr (.inl k_namesf)))] → va_S A s.heap H locs → lv_has ls 4 [(3, .int i_2), (0, .ref h0), (1, .long p1)] → W p l e ({ frames := 0, cells := 0, slots := 0, locals := 0 } : Room) s m args below meth c H locs 0 0 Q (F0 m 2 ls []) := by
    intro nlp_1
    induction nlp_1 with
    | zero =>
      intro i_2 H locs ls b_3 b_4 hmlp_1 hP hD hS hl
      exfalso
      have di_2 := ti_bd i_2
      omega
    | succ nlp_1 ihlp_1 =>
      intro i_2 H locs ls b_3 b_4 hmlp_1 hP hD hS hl
      refine lv_iload_n hx hb dX7_hasName_2 rfl (lv_at hl 0 rfl) ?_
      refine lv_aload_n hx hb dX7_hasName_3 rfl (lv_at hl 1 rfl) ?_
      refine r_get X kcX7 (ci := 7) rfl hP 0 rfl 6 (by decide) fX7_56 rfl dX7_hasName_4 ?_
      refine lv_icmp_ge (tgt := 29) hx hb dX7_hasName_7 (by decide) (fun h_5 => ?_) (fun h_5 => ?_)
      · have h_5 : k_walkers.toInt ≤ i_2.toInt := c_le h_5
        refine lv_iconst (v := 0) hx hb dX7_hasName_29 (by decide) ?_
        exact eI hQ X hr hlocks hP hD hS () [0, 1] (by decide) rfl rfl (show (0 ≤ (0 : Int32).toInt ∧ (0 : Int32).toInt ≤ 1) ∧ (hnP k_namesf k_walkers.toInt p1 (0 : Int32).toInt) from ⟨(by first | decide | (have h9_0 : (0 : Int32).toInt = 0 := (by decide); omega) | (refine ⟨by decide, ?_⟩; omega) | omega), (hnP_n b_4 (by omega) (by decide))⟩) (Nat.le_of_ble_eq_true rfl) (Nat.le_of_ble_eq_true rfl) dX7_hasName_30
      · have h_5 : i_2.toInt < k_walkers.toInt := c_nle h_5
        refine lv_aload_n hx hb dX7_hasName_10 rfl (lv_at hl 1 rfl) ?_
        refine r_get X kcX7 (ci := 7) rfl hP 0 rfl 7 (by decide) fX7_22 rfl dX7_hasName_11 ?_
        refine lv_iload_n hx hb dX7_hasName_14 rfl (lv_at hl 0 rfl) ?_
        refine va_lald (D := (dC, dI)) (cl := vwCl) hx hb hK hP 1 2 rfl rfl (i := i_2) (vin (by omega) (by omega)) dX7_hasName_15 ?_
        refine lv_topl (fun x_6 ex_6 => ?_)
        refine lv_lload_n hx hb dX7_hasName_16 rfl (lv_at hl 2 rfl) ?_
        refine W.lcmp hx hb dX7_hasName_17 ?_
        refine lv_topi (fun x_7 ex_7 => ?_)
        refine lv_if_ne (tgt := 23) hx hb dX7_hasName_18 (by decide) (fun h_8 => ?_) (fun h_8 => ?_)
        · have h_8 : x_7.toInt ≠ 0 := c_ne h_8
          obtain ⟨x_9, ex_9⟩ : ∃ y : Int32, y = i_2 + 1 := ⟨_, rfl⟩
          have tx_9 : x_9.toInt = i_2.toInt + 1 := ti_add (A := i_2.toInt) (B := 1) ex_9 rfl rfl (by omega) (by omega)
          refine lv_iinc (v := x_9) (lv' := [(3, .int x_9), (0, .ref h0), (1, .long p1)]) hx hb dX7_hasName_23 hl (k := 0) rfl (by rw [ex_9]; rfl) (by decide) rfl (fun ls hl => ?_)
          refine lv_goto (tgt := 2) hx hb dX7_hasName_26 (by decide) ?_
          exact ihlp_1 x_9 _ _ _ (by omega) (show ntl k_namesf x_9.toInt p1 from (ntl_up (i := i_2) b_4 ex_6 (lne_cmp ex_7 (by omega)) (by omega) (by omega))) (show 5 - x_9.toInt ≤ (nlp_1 : Int) by omega) hP hD hS (lv_sub hl [0, 1, 2] rfl)
        · have h_8 : x_7.toInt = 0 := c_eq h_8
          refine lv_iconst (v := 1) hx hb dX7_hasName_21 (by decide) ?_
          exact eI hQ X hr hlocks hP hD hS () [0, 1] (by decide) rfl rfl (show (0 ≤ (1 : Int32).toInt ∧ (1 : Int32).toInt ≤ 1) ∧ (hnP k_namesf k_walkers.toInt p1 (1 : Int32).toInt) from ⟨(by first | decide | (have h9_0 : (1 : Int32).toInt = 1 := (by decide); omega) | (refine ⟨by decide, ?_⟩; omega) | omega), (hnP_y (i := i_2) ex_6 (leq_cmp ex_7 (by omega)) (by omega) (by omega) (by decide))⟩) (Nat.le_of_ble_eq_true rfl) (Nat.le_of_ble_eq_true rfl) dX7_hasName_22
  exact lp_1 5 0 _ _ _ (by decide) (show ntl k_namesf 0 p1 from (ntl_0 (by omega))) (show 5 - 0 ≤ ((5 : Nat) : Int) by omega) hP hD hS hl
end
section
theorem lbS_ok {f : Nat → Int32} {n w d rows many most : Int} {σ : Int × Int} (hm : many ≠ most) (hw : 0 < w) (hr : d ≤ rows) : lbS f n w d rows many most σ = go f n σ := by
  unfold lbS
  rw [ck_n hm, ck_n (show ¬ (w ≤ 0 ∨ rows < d) by omega)]
theorem lbS_6 {f : Nat → Int32} {n w d rows many most : Int} {σ : Int × Int} (h0 : σ.1 = 0) (hm : many ≠ most) (h : w ≤ 0 ∨ rows < d) : lbS f n w d rows many most σ = (6, σ.2) := by
  unfold lbS
  rw [ck_n hm, ck_y h, fl_z h0, go_o (pn (show (6 : Int) ≠ 0 by decide))]
theorem lbS_5 {f : Nat → Int32} {n w d rows many most : Int} {σ : Int × Int} (h0 : σ.1 = 0) (hm : many = most) : lbS f n w d rows many most σ = (5, σ.2) := by
  unfold lbS
  rw [ck_y hm, fl_z h0, ck_o (pn (show (5 : Int) ≠ 0 by decide)), go_o (pn (show (5 : Int) ≠ 0 by decide))]
theorem nmS_o {f : Nat → Int32} {n : Int} {g : Nat → Int64} {many : Int} {σ : Int × Int} (h : σ.1 ≠ 0) : nmS f n g many σ = σ := by
  unfold nmS
  rw [ck_o h, ck_o h]
theorem nmS_ok {f : Nat → Int32} {n : Int} {g : Nat → Int64} {many : Int} {σ : Int × Int} (h1 : tK f n σ.2 = 1) (h2 : lw f n σ.2 = -1) (h3 : ¬ tol g many (tC f n σ.2)) : nmS f n g many σ = σ := by
  unfold nmS
  rw [ck_n (show ¬ (tK f n σ.2 ≠ 1 ∨ lw f n σ.2 ≠ -1) from fun q => q.elim (fun q => q h1) (fun q => q h2)), ck_n h3]
theorem nmS_1 {f : Nat → Int32} {n : Int} {g : Nat → Int64} {many : Int} {σ : Int × Int} (h0 : σ.1 = 0) (h : tK f n σ.2 ≠ 1 ∨ lw f n σ.2 ≠ -1) : nmS f n g many σ = (1, σ.2) := by
  unfold nmS
  rw [ck_y h, fl_z h0, ck_o (pn (show (1 : Int) ≠ 0 by decide))]
theorem nmS_3 {f : Nat → Int32} {n : Int} {g : Nat → Int64} {many : Int} {σ : Int × Int} (h0 : σ.1 = 0) (h1 : tK f n σ.2 = 1) (h2 : lw f n σ.2 = -1) (h3 : tol g many (tC f n σ.2)) : nmS f n g many σ = (3, σ.2) := by
  unfold nmS
  rw [ck_n (show ¬ (tK f n σ.2 ≠ 1 ∨ lw f n σ.2 ≠ -1) from fun q => q.elim (fun q => q h1) (fun q => q h2)), ck_y h3, fl_z h0]
theorem kdS_o {f : Nat → Int32} {n : Int} {σ : Int × Int} (h : σ.1 ≠ 0) : kdS f n σ = σ := by
  unfold kdS
  rw [ck_o h, go_o h]
theorem kdS_ok {f : Nat → Int32} {n : Int} {σ : Int × Int} (h : ¬ kd f n σ.2 = -1) : kdS f n σ = go f n σ := by
  unfold kdS
  rw [ck_n h]
theorem kdS_1 {f : Nat → Int32} {n : Int} {σ : Int × Int} (h0 : σ.1 = 0) (h : kd f n σ.2 = -1) : kdS f n σ = (1, σ.2) := by
  unfold kdS
  rw [ck_y h, fl_z h0, go_o (pn (show (1 : Int) ≠ 0 by decide))]
theorem fWk_o {f : Nat → Int32} {n w d rows many : Int} {s : Nat → Int32} {g : Nat → Int64} {σ τ : Int × Int} (e : lbS f n w d rows many 4 σ = τ) (h : τ.1 ≠ 0) : fWk f n w d rows many s g σ = τ := by
  unfold fWk
  rw [e, nmS_o h, go_o h, kdS_o h, nd_o h, rPl_o h, nd_o h, rPl_o h]
theorem fWk_o2 {f : Nat → Int32} {n w d rows many : Int} {s : Nat → Int32} {g : Nat → Int64} {σ τ0 τ : Int × Int} (e : lbS f n w d rows many 4 σ = τ0) (e2 : nmS f n g many τ0 = τ) (h : τ.1 ≠ 0) : fWk f n w d rows many s g σ = τ := by
  unfold fWk
  rw [e, e2, go_o h, kdS_o h, nd_o h, rPl_o h, nd_o h, rPl_o h]
theorem fWk_o3 {f : Nat → Int32} {n w d rows many : Int} {s : Nat → Int32} {g : Nat → Int64} {σ τ0 τ : Int × Int} (e : lbS f n w d rows many 4 σ = τ0) (e2 : nmS f n g many τ0 = τ0) (e3 : kdS f n (go f n τ0) = τ) (h : τ.1 ≠ 0) : fWk f n w d rows many s g σ = τ := by
  unfold fWk
  rw [e, e2, e3, nd_o h, rPl_o h, nd_o h, rPl_o h]
theorem fWk_e {f : Nat → Int32} {n w d rows many : Int} {s : Nat → Int32} {g : Nat → Int64} {σ τ0 τ : Int × Int} (e : lbS f n w d rows many 4 σ = τ0) (e2 : nmS f n g many τ0 = τ0) (e3 : kdS f n (go f n τ0) = τ) : fWk f n w d rows many s g σ = rPl f n w d s 0 (nd f n 2 (txB "to") (rPl f n w d s 0 (nd f n 2 (txB "at") τ))) := by
  unfold fWk
  rw [e, e2, e3]
/-- an end with a fault -/
theorem OcC_k {f : Nat → Int32} {n : Int} {F : Int × Int} {k j r t s p fa fat : Int} (hr : r = 0) (e : F = (k, j)) (h0 : k ≠ 0) (hf : fa = k) (ht : fat = tS f n j) : OcC f n F r t s p fa fat := by
  subst e
  exact Or.inr ⟨hr, h0, hf, ht⟩
theorem OcC_t {f : Nat → Int32} {n : Int} {F τ : Int × Int} {r t s p fa fat : Int} (hr : r = 0) (e : F = τ) (h : τ.1 ≠ 0 ∧ fa = τ.1 ∧ fat = tS f n τ.2) : OcC f n F r t s p fa fat := by
  subst e
  exact Or.inr ⟨hr, h⟩
theorem OcC_y {f : Nat → Int32} {n : Int} {F τ : Int × Int} {r t s p fa fat : Int} (hr : r = 1) (e : F = τ) (h : τ.1 = 0 ∧ LkC f n τ.2 t s p) : OcC f n F r t s p fa fat := by
  subst e
  exact Or.inl ⟨hr, h⟩
theorem LkC.code {f : Nat → Int32} {n j tok st sp c : Int} (h : LkC f n j tok st sp) (ht : tok = 1) (hc : wds f st sp → c = cdI f st.toNat (sp - st).toNat) : c = tC f n j := by
  have h1 := hc (h.wl ht)
  obtain ⟨-, h2, h3, h4⟩ := h
  subst h3 h4
  exact h1
/-- a park's walkers: names, kinds, starts, goals; errs, slips -/
abbrev WT3 := (Nat → Int32) × (Nat → Int32) × (Nat → Int32)
/-- unsure places; walks: where they begin, how many STEPS, 1 for a fall -/
abbrev WT := (Nat → Int32) × WT3
abbrev GT := (Nat → Int64) × ((Nat → Int32) × (Nat → Int32) × (Nat → Int32)) × (Int × Int) × WT
/-- where a walker's line says that he is, that he goes -/
noncomputable def kA (f : Nat → Int32) (n w : Int) (σ : Int × Int) : Int := sC f n w (nd f n 2 (txB "at") (go f n (go f n (go f n σ))))
noncomputable def kT (f : Nat → Int32) (n w d : Int) (σ : Int × Int) : Int := sC f n w (nd f n 2 (txB "to") (rW f n 0 (d - 1) (rW f n 0 (w - 1) (nd f n 2 (txB "at") (go f n (go f n (go f n σ)))))))
def apX (f : Nat → Int32) (n w d : Int) (g g1 : GT) (many : Int) (σ : Int × Int) : Prop := apL g.1 g1.1 many (tC f n (go f n σ).2) ∧ ap1 g.2.1.1 g1.2.1.1 many (kd f n (go f n (go f n σ)).2) ∧ ap1 g.2.1.2.1 g1.2.1.2.1 many (kA f n w σ) ∧ ap1 g.2.1.2.2 g1.2.1.2.2 many (kT f n w d σ) ∧ g1.2.2 = g.2.2
theorem ap1_at {f f1 : Nat → Int32} {k v : Int32} {m x : Int} (e : upd f (Int32.toNatClampNeg k) v = f1) (hk : k.toInt = m) (h0 : 0 ≤ m) (hv : v.toInt = x) : ap1 f f1 m x := by
  have h1 := ap1_of e (by omega)
  rw [hk, hv] at h1
  exact h1
theorem apL_at {g g1 : Nat → Int64} {k : Int32} {c : Int64} {m x : Int} (e : vp_updL g (Int32.toNatClampNeg k) c = g1) (hk : k.toInt = m) (h0 : 0 ≤ m) (hv : c.toInt = x) : apL g g1 m x := by
  have e1 : k.toNatClampNeg = m.toNat := by rw [← hk]; rfl
  rw [← e, e1]
  refine ⟨?_, fun j hj => ?_⟩
  · show ((if m.toNat = m.toNat then c else g m.toNat) : Int64).toInt = _
    rw [if_pos rfl]
    exact hv
  · show (if j = m.toNat then c else g j) = g j
    rw [if_neg (by omega)]
/-- a place that was read: its hedge was none -/
theorem rPl_z {f : Nat → Int32} {n w d : Int} {s : Nat → Int32} {z : Int} {σ : Int × Int} (h : (rPl f n w d s z σ).1 = 0) : rPl f n w d s z σ = rW f n 0 (d - 1) (rW f n 0 (w - 1) σ) := by
  have h1 : (hg s z (sC f n w σ) (wa f n 0 (d - 1) (rW f n 0 (w - 1) σ))).1 = 0 := Classical.byContradiction (fun q => by unfold rPl at h; rw [go_o q] at h; exact q h)
  have h2 : hg s z (sC f n w σ) (wa f n 0 (d - 1) (rW f n 0 (w - 1) σ)) = wa f n 0 (d - 1) (rW f n 0 (w - 1) σ) := by
    by_cases q : (wa f n 0 (d - 1) (rW f n 0 (w - 1) σ)).1 = 0
    · unfold hg at h1 ⊢
      by_cases c : z = 0 ∧ (s (sC f n w σ).toNat).toInt = 3
      · rw [if_pos c, fl_z q] at h1
        exact absurd h1 (pn (by decide))
      · rw [if_neg c]
    · exact hg_o q
  unfold rPl
  rw [h2]
  rfl
theorem OcC.r1 {f : Nat → Int32} {n : Int} {σ : Int × Int} {r t1 s1 p1 fa fat : Int} (h : OcC f n σ r t1 s1 p1 fa fat) (hr : r ≠ 0) : r = 1 := by
  rcases h with q | q
  · exact q.1
  · exact absurd q.1 hr
/-- readWalker of the class -/
def qX (f : Nat → Int32) (n w d rows many count : Int) (s : Nat → Int32) (g : GT) (tok st sp r t1 s1 p1 fa fat many1 : Int) (g1 : GT) : Prop := count = w * d → rows ≤ d → (w ≤ 0 ∨ rows < d → many = 0) → ∀ σ : Int × Int, σ.1 = 0 → LkC f n σ.2 tok st sp → OcC f n (fWk f n w d rows many s g.1 σ) r t1 s1 p1 fa fat ∧ (r = 1 → many1 = many + 1 ∧ apX f n w d g g1 many σ)
theorem qX_6 {f : Nat → Int32} {n w d rows many count : Int} {s : Nat → Int32} {g : GT} {tok st sp r t1 s1 p1 fa fat many1 : Int} {g1 : GT} (h : w ≤ 0 ∨ rows < d) (hr : r = 0) (hf : fa = 6) (ht : fat = st) : qX f n w d rows many count s g tok st sp r t1 s1 p1 fa fat many1 g1 := by
  intro hc hrd hm σ hσ hk
  have m0 := hm h
  exact ⟨OcC_k hr (fWk_o (lbS_6 hσ (by omega) h) (pn (by decide))) (by decide) hf (ht.trans hk.2.2.1), fun q => absurd (hr.symm.trans q) (by decide)⟩
theorem qX_5 {f : Nat → Int32} {n w d rows many count : Int} {s : Nat → Int32} {g : GT} {tok st sp r t1 s1 p1 fa fat many1 : Int} {g1 : GT} (h : many = 4) (hr : r = 0) (hf : fa = 5) (ht : fat = st) : qX f n w d rows many count s g tok st sp r t1 s1 p1 fa fat many1 g1 := by
  intro hc hrd hm σ hσ hk
  exact ⟨OcC_k hr (fWk_o (lbS_5 hσ h) (pn (by decide))) (by decide) hf (ht.trans hk.2.2.1), fun q => absurd (hr.symm.trans q) (by decide)⟩
theorem qX_1 {f : Nat → Int32} {n w d rows many count : Int} {s : Nat → Int32} {g : GT} {tok st sp r t1 s1 p1 fa fat many1 a1 a2 a3 : Int} {g1 : GT} (hm4 : many ≠ 4) (hw : 0 < w) (hd : d ≤ rows) (hn : LkC f n sp a1 a2 a3) (h : a1 ≠ 1 ∨ ∃ r9, fwP f a1 a2 a3 (lw f) n r9 ∧ r9 ≠ -1) (hr : r = 0) (hf : fa = 1) (ht : fat = a2) : qX f n w d rows many count s g tok st sp r t1 s1 p1 fa fat many1 g1 := by
  intro hc hrd hm σ hσ hk
  obtain ⟨z1, k1⟩ := LkC.go hk hσ hn
  have hq : tK f n (go f n σ).2 ≠ 1 ∨ lw f n (go f n σ).2 ≠ -1 := by
    rcases h with h | ⟨r9, h1, h2⟩
    · refine Or.inl ?_
      rw [← k1.2.1]
      exact h
    · refine Or.inr ?_
      rw [← h1 _ k1]
      exact h2
  exact ⟨OcC_k hr (fWk_o2 (lbS_ok hm4 hw hd) (nmS_1 z1 hq) (pn (by decide))) (by decide) hf (ht.trans k1.2.2.1), fun q => absurd (hr.symm.trans q) (by decide)⟩
theorem qX_3 {f : Nat → Int32} {n w d rows many count : Int} {s : Nat → Int32} {g : GT} {tok st sp r t1 s1 p1 fa fat many1 a1 a2 a3 r9 r10 : Int} {c : Int64} {g1 : GT} (hm4 : many ≠ 4) (hw : 0 < w) (hd : d ≤ rows) (hn : LkC f n sp a1 a2 a3) (h1 : a1 = 1) (h9 : fwP f a1 a2 a3 (lw f) n r9) (e9 : r9 = -1) (hc9 : wds f a2 a3 → c.toInt = cdI f a2.toNat (a3 - a2).toNat) (hN : hnP g.1 many c r10) (e10 : r10 ≠ 0) (hr : r = 0) (hf : fa = 3) (ht : fat = a2) : qX f n w d rows many count s g tok st sp r t1 s1 p1 fa fat many1 g1 := by
  intro hc hrd hm σ hσ hk
  obtain ⟨z1, k1⟩ := LkC.go hk hσ hn
  have hC := k1.code h1 hc9
  have hT : tol g.1 many (tC f n (go f n σ).2) := by
    rcases hN with q | q
    · rw [← hC]; exact q.2
    · exact absurd q.1 e10
  exact ⟨OcC_k hr (fWk_o2 (lbS_ok hm4 hw hd) (nmS_3 z1 (k1.2.1.symm.trans h1) ((h9 _ k1).symm.trans e9) hT) (pn (by decide))) (by decide) hf (ht.trans k1.2.2.1), fun q => absurd (hr.symm.trans q) (by decide)⟩
/-- behind the name -/
theorem nx_name {f : Nat → Int32} {n w d rows many : Int} {g : Nat → Int64} {tok st sp a1 a2 a3 r9 r10 : Int} {c : Int64} {σ : Int × Int} (hm4 : many ≠ 4) (hw : 0 < w) (hd : d ≤ rows) (hn : LkC f n sp a1 a2 a3) (h1 : a1 = 1) (h9 : fwP f a1 a2 a3 (lw f) n r9) (e9 : r9 = -1) (hc9 : wds f a2 a3 → c.toInt = cdI f a2.toNat (a3 - a2).toNat) (hN : hnP g many c r10) (e10 : r10 = 0) (hσ : σ.1 = 0) (hk : LkC f n σ.2 tok st sp) : (go f n σ).1 = 0 ∧ LkC f n (go f n σ).2 a1 a2 a3 ∧ lbS f n w d rows many 4 σ = go f n σ ∧ nmS f n g many (go f n σ) = go f n σ ∧ c.toInt = tC f n (go f n σ).2 := by
  obtain ⟨z1, k1⟩ := LkC.go hk hσ hn
  have hC := k1.code h1 hc9
  have hT : ¬ tol g many (tC f n (go f n σ).2) := by
    rcases hN with q | q
    · exact absurd e10 (by omega)
    · rw [← hC]; exact q.2
  exact ⟨z1, k1, lbS_ok hm4 hw hd, nmS_ok (k1.2.1.symm.trans h1) ((h9 _ k1).symm.trans e9) hT, hC⟩
theorem qX_k {f : Nat → Int32} {n w d rows many count : Int} {s : Nat → Int32} {g : GT} {tok st sp r t1 s1 p1 fa fat many1 a1 a2 a3 r9 r10 b1 b2 b3 r11 : Int} {c : Int64} {g1 : GT} (hm4 : many ≠ 4) (hw : 0 < w) (hd : d ≤ rows) (hn : LkC f n sp a1 a2 a3) (h1 : a1 = 1) (h9 : fwP f a1 a2 a3 (lw f) n r9) (e9 : r9 = -1) (hc9 : wds f a2 a3 → c.toInt = cdI f a2.toNat (a3 - a2).toNat) (hN : hnP g.1 many c r10) (e10 : r10 = 0) (hn2 : LkC f n a3 b1 b2 b3) (h11 : fwP f b1 b2 b3 (kd f) n r11) (e11 : r11 = -1) (hr : r = 0) (hf : fa = 1) (ht : fat = b2) : qX f n w d rows many count s g tok st sp r t1 s1 p1 fa fat many1 g1 := by
  intro hc hrd hm σ hσ hk
  obtain ⟨z1, k1, eA, eB, hC⟩ := nx_name (w := w) (d := d) (rows := rows) hm4 hw hd hn h1 h9 e9 hc9 hN e10 hσ hk
  obtain ⟨z2, k2⟩ := LkC.go k1 z1 hn2
  exact ⟨OcC_k hr (fWk_o3 eA eB (kdS_1 z2 ((h11 _ k2).symm.trans e11)) (pn (by decide))) (by decide) hf (ht.trans k2.2.2.1), fun q => absurd (hr.symm.trans q) (by decide)⟩
/-- the class stands behind the kind's word -/
def PXk (f : Nat → Int32) (n w d rows many : Int) (s : Nat → Int32) (g : Nat → Int64) (tok st sp c1 c2 c3 c kk : Int) : Prop := ∀ σ : Int × Int, σ.1 = 0 → LkC f n σ.2 tok st sp → ∃ τ : Int × Int, fWk f n w d rows many s g σ = rPl f n w d s 0 (nd f n 2 (txB "to") (rPl f n w d s 0 (nd f n 2 (txB "at") τ))) ∧ τ.1 = 0 ∧ LkC f n τ.2 c1 c2 c3 ∧ c = tC f n (go f n σ).2 ∧ τ = go f n (go f n (go f n σ)) ∧ kk = kd f n (go f n (go f n σ)).2
theorem PXk_of {f : Nat → Int32} {n w d rows many : Int} {s : Nat → Int32} {g : Nat → Int64} {tok st sp a1 a2 a3 r9 r10 b1 b2 b3 r11 c1 c2 c3 : Int} {c : Int64} (hm4 : many ≠ 4) (hw : 0 < w) (hd : d ≤ rows) (hn : LkC f n sp a1 a2 a3) (h1 : a1 = 1) (h9 : fwP f a1 a2 a3 (lw f) n r9) (e9 : r9 = -1) (hc9 : wds f a2 a3 → c.toInt = cdI f a2.toNat (a3 - a2).toNat) (hN : hnP g many c r10) (e10 : r10 = 0) (hn2 : LkC f n a3 b1 b2 b3) (h11 : fwP f b1 b2 b3 (kd f) n r11) (e11 : r11 ≠ -1) (hn3 : LkC f n b3 c1 c2 c3) : PXk f n w d rows many s g tok st sp c1 c2 c3 c.toInt r11 := by
  intro σ hσ hk
  obtain ⟨z1, k1, eA, eB, hC⟩ := nx_name (w := w) (d := d) (rows := rows) hm4 hw hd hn h1 h9 e9 hc9 hN e10 hσ hk
  obtain ⟨z2, k2⟩ := LkC.go k1 z1 hn2
  obtain ⟨z3, k3⟩ := LkC.go k2 z2 hn3
  exact ⟨_, fWk_e eA eB (kdS_ok (fun q => e11 ((h11 _ k2).trans q))), z3, k3, hC, rfl, h11 _ k2⟩
theorem qX_at {f : Nat → Int32} {n w d rows many count : Int} {s : Nat → Int32} {g : GT} {tok st sp r t1 s1 p1 fa fat many1 c1 c2 c3 c kk r12 : Int} {g1 : GT} (hp : PXk f n w d rows many s g.1 tok st sp c1 c2 c3 c kk) (h12 : qW f n 2 (txB "at") c1 c2 c3 r12 t1 s1 p1 fa fat) (e12 : r12 = 0) (hr : r = 0) : qX f n w d rows many count s g tok st sp r t1 s1 p1 fa fat many1 g1 := by
  intro hc hrd hm σ hσ hk
  obtain ⟨τ, e, z, k, -⟩ := hp σ hσ hk
  have o1 := (h12 τ z asc_at k).o e12
  refine ⟨OcC_t hr (e.trans ?_) o1, fun q => absurd (hr.symm.trans q) (by decide)⟩
  rw [rPl_o o1.1, nd_o o1.1, rPl_o o1.1]
theorem qX_p {f : Nat → Int32} {n w d rows many count : Int} {s : Nat → Int32} {g : GT} {tok st sp r t1 s1 p1 fa fat many1 c1 c2 c3 c kk r12 d1 d2 d3 fb fc z r13 nu : Int} {g1 : GT} (hp : PXk f n w d rows many s g.1 tok st sp c1 c2 c3 c kk) (h12 : qW f n 2 (txB "at") c1 c2 c3 r12 d1 d2 d3 fb fc) (e12 : r12 ≠ 0) (hz : z = 0) (h13 : qP f n w d count s z d1 d2 d3 r13 nu t1 s1 p1 fa fat) (e13 : r13 = 0) (hr : r = 0) : qX f n w d rows many count s g tok st sp r t1 s1 p1 fa fat many1 g1 := by
  subst hz
  intro hc hrd hm σ hσ hk
  obtain ⟨τ, e, z, k, -⟩ := hp σ hσ hk
  obtain ⟨z1, k1⟩ := (h12 τ z asc_at k).z e12
  have o1 := (h13 hc _ z1 k1).1.o e13
  refine ⟨OcC_t hr (e.trans ?_) o1, fun q => absurd (hr.symm.trans q) (by decide)⟩
  rw [nd_o o1.1, rPl_o o1.1]
theorem qX_to {f : Nat → Int32} {n w d rows many count : Int} {s : Nat → Int32} {g : GT} {tok st sp r t1 s1 p1 fa fat many1 c1 c2 c3 c kk r12 d1 d2 d3 fb fc z r13 nu e1 e2 e3 fd fe r14 : Int} {g1 : GT} (hp : PXk f n w d rows many s g.1 tok st sp c1 c2 c3 c kk) (h12 : qW f n 2 (txB "at") c1 c2 c3 r12 d1 d2 d3 fb fc) (e12 : r12 ≠ 0) (hz : z = 0) (h13 : qP f n w d count s z d1 d2 d3 r13 nu e1 e2 e3 fd fe) (e13 : r13 ≠ 0) (h14 : qW f n 2 (txB "to") e1 e2 e3 r14 t1 s1 p1 fa fat) (e14 : r14 = 0) (hr : r = 0) : qX f n w d rows many count s g tok st sp r t1 s1 p1 fa fat many1 g1 := by
  subst hz
  intro hc hrd hm σ hσ hk
  obtain ⟨τ, e, z, k, -⟩ := hp σ hσ hk
  obtain ⟨z1, k1⟩ := (h12 τ z asc_at k).z e12
  obtain ⟨z2, k2⟩ := (h13 hc _ z1 k1).1.z e13
  have o1 := (h14 _ z2 asc_to k2).o e14
  refine ⟨OcC_t hr (e.trans ?_) o1, fun q => absurd (hr.symm.trans q) (by decide)⟩
  rw [rPl_o o1.1]
theorem qX_q {f : Nat → Int32} {n w d rows many count : Int} {s : Nat → Int32} {g : GT} {tok st sp r t1 s1 p1 fa fat many1 c1 c2 c3 c kk r12 d1 d2 d3 fb fc z r13 nu e1 e2 e3 fd fe r14 g1' g2 g3 fg fh y r15 nv : Int} {g1 : GT} (hp : PXk f n w d rows many s g.1 tok st sp c1 c2 c3 c kk) (h12 : qW f n 2 (txB "at") c1 c2 c3 r12 d1 d2 d3 fb fc) (e12 : r12 ≠ 0) (hz : z = 0) (h13 : qP f n w d count s z d1 d2 d3 r13 nu e1 e2 e3 fd fe) (e13 : r13 ≠ 0) (h14 : qW f n 2 (txB "to") e1 e2 e3 r14 g1' g2 g3 fg fh) (e14 : r14 ≠ 0) (hy : y = 0) (h15 : qP f n w d count s y g1' g2 g3 r15 nv t1 s1 p1 fa fat) (e15 : r15 = 0) (hr : r = 0) : qX f n w d rows many count s g tok st sp r t1 s1 p1 fa fat many1 g1 := by
  subst hz hy
  intro hc hrd hm σ hσ hk
  obtain ⟨τ, e, z, k, -⟩ := hp σ hσ hk
  obtain ⟨z1, k1⟩ := (h12 τ z asc_at k).z e12
  obtain ⟨z2, k2⟩ := (h13 hc _ z1 k1).1.z e13
  obtain ⟨z3, k3⟩ := (h14 _ z2 asc_to k2).z e14
  exact ⟨OcC_t hr e ((h15 hc _ z3 k3).1.o e15), fun q => absurd (hr.symm.trans q) (by decide)⟩
theorem qX_y {f : Nat → Int32} {n w d rows many count : Int} {s : Nat → Int32} {g : GT} {tok st sp r t1 s1 p1 fa fat many1 c1 c2 c3 r12 d1 d2 d3 fb fc z r13 e1 e2 e3 fd fe r14 g1' g2 g3 fg fh y r15 fi fj : Int} {c : Int64} {k kk nu nv : Int32} {g1 : GT} (hp : PXk f n w d rows many s g.1 tok st sp c1 c2 c3 c.toInt kk.toInt) (h12 : qW f n 2 (txB "at") c1 c2 c3 r12 d1 d2 d3 fb fc) (e12 : r12 ≠ 0) (hz : z = 0) (h13 : qP f n w d count s z d1 d2 d3 r13 nu.toInt e1 e2 e3 fd fe) (e13 : r13 ≠ 0) (h14 : qW f n 2 (txB "to") e1 e2 e3 r14 g1' g2 g3 fg fh) (e14 : r14 ≠ 0) (hy : y = 0) (h15 : qP f n w d count s y g1' g2 g3 r15 nv.toInt t1 s1 p1 fi fj) (e15 : r15 ≠ 0) (hr : r = 1) (hm1 : many1 = many + 1) (hk0 : k.toInt = many) (h0 : 0 ≤ many) (eg : vp_updL g.1 (Int32.toNatClampNeg k) c = g1.1) (eK : upd g.2.1.1 (Int32.toNatClampNeg k) kk = g1.2.1.1) (eA : upd g.2.1.2.1 (Int32.toNatClampNeg k) nu = g1.2.1.2.1) (eT : upd g.2.1.2.2 (Int32.toNatClampNeg k) nv = g1.2.1.2.2) (eE : g1.2.2 = g.2.2) : qX f n w d rows many count s g tok st sp r t1 s1 p1 fa fat many1 g1 := by
  subst hz hy
  intro hc hrd hm σ hσ hk
  obtain ⟨τ, e, z, k', hC, hτ, hK⟩ := hp σ hσ hk
  subst hτ
  obtain ⟨z1, k1⟩ := (h12 _ z asc_at k').z e12
  obtain ⟨o2, v2⟩ := h13 hc _ z1 k1
  obtain ⟨z2, k2⟩ := o2.z e13
  obtain ⟨z3, k3⟩ := (h14 _ z2 asc_to k2).z e14
  obtain ⟨o4, v4⟩ := h15 hc _ z3 k3
  have w4 := v4 (o4.r1 e15)
  rw [rPl_z z2] at w4
  exact ⟨OcC_y hr e (o4.z e15), fun _ => ⟨hm1, apL_at eg hk0 h0 hC, ap1_at eK hk0 h0 hK, ap1_at eA hk0 h0 (v2 (o2.r1 e13)), ap1_at eT hk0 h0 w4, eE⟩⟩
/-- readWalk of the class -/
theorem rPl_1 {f : Nat → Int32} {n w d : Int} {g : Nat → Int32} {z : Int} {σ : Int × Int} (hz : z ≠ 0) : rPl f n w d g z σ = rW f n 0 (d - 1) (rW f n 0 (w - 1) σ) := by
  unfold rPl hg
  rw [if_neg (fun q => hz q.1)]
  rfl
theorem feS_o {f : Nat → Int32} {n : Int} {σ : Int × Int} (h : σ.1 ≠ 0) : feS f n σ = σ := by
  unfold feS
  rw [ck_o h, go_o h]
theorem stpS_o {f : Nat → Int32} {n w d : Int} {σ : Int × Int} (h : σ.1 ≠ 0) : stpS f n w d σ = σ := by
  unfold stpS
  rw [rW_o h, rW_o h, rP_o h]
theorem fWl_o {f : Nat → Int32} {n w d rows many : Int} {σ τ : Int × Int} (e : lbS f n w d rows many 6 σ = τ) (h : τ.1 ≠ 0) : fWl f n w d rows many σ = τ := by
  unfold fWl
  rw [e, stpS_o h, feS_o h]
/-- where a walk's line says that it begins, how many STEPS, whether it fell -/
noncomputable def kF (f : Nat → Int32) (n w : Int) (σ : Int × Int) : Int := sC f n w (go f n σ)
noncomputable def kS (f : Nat → Int32) (n w d : Int) (σ : Int × Int) : Int := tN f n (nd f n 5 (txB "steps") (rW f n 0 (d - 1) (rW f n 0 (w - 1) (go f n σ)))).2
noncomputable def kL (f : Nat → Int32) (n w d : Int) (σ : Int × Int) : Int := @ite _ (isW f n 4 (txB "fell") (stpS f n w d (go f n σ)).2) (Classical.propDecidable _) 1 0
def apW (f : Nat → Int32) (n w d : Int) (W W1 : WT3) (many : Int) (σ : Int × Int) : Prop := ap1 W.1 W1.1 many (kF f n w σ) ∧ ap1 W.2.1 W1.2.1 many (kS f n w d σ) ∧ ap1 W.2.2 W1.2.2 many (kL f n w d σ)
theorem wdP.one {f : Nat → Int32} {tok st sp : Int} {sn : Nat} {sf : Nat → Int32} {r : Int} (h : wdP f tok st sp sn sf r) (ha : asc sn sf) (hr : r ≠ 0) : r = 1 := by
  rcases h ha with q | q
  · exact q.1
  · omega
def qY (f : Nat → Int32) (n w d rows many count : Int) (W : WT3) (tok st sp r t1 s1 p1 fa fat many1 : Int) (W1 : WT3) : Prop := count = w * d → rows ≤ d → (w ≤ 0 ∨ rows < d → many = 0) → ∀ σ : Int × Int, σ.1 = 0 → LkC f n σ.2 tok st sp → OcC f n (fWl f n w d rows many σ) r t1 s1 p1 fa fat ∧ (r = 1 → many1 = many + 1 ∧ apW f n w d W W1 many σ)
theorem qY_6 {f : Nat → Int32} {W W1 : WT3} {n w d rows many count tok st sp r t1 s1 p1 fa fat many1 : Int} (h : w ≤ 0 ∨ rows < d) (hr : r = 0) (hf : fa = 6) (ht : fat = st) : qY f n w d rows many count W tok st sp r t1 s1 p1 fa fat many1 W1 := by
  intro hc hrd hm σ hσ hk
  have m0 := hm h
  exact ⟨OcC_k hr (fWl_o (lbS_6 hσ (by omega) h) (pn (by decide))) (by decide) hf (ht.trans hk.2.2.1), fun q => absurd (hr.symm.trans q) (by decide)⟩
theorem qY_5 {f : Nat → Int32} {W W1 : WT3} {n w d rows many count tok st sp r t1 s1 p1 fa fat many1 : Int} (h : many = 6) (hr : r = 0) (hf : fa = 5) (ht : fat = st) : qY f n w d rows many count W tok st sp r t1 s1 p1 fa fat many1 W1 := by
  intro hc hrd hm σ hσ hk
  exact ⟨OcC_k hr (fWl_o (lbS_5 hσ h) (pn (by decide))) (by decide) hf (ht.trans hk.2.2.1), fun q => absurd (hr.symm.trans q) (by decide)⟩
theorem fWl_e {f : Nat → Int32} {n w d rows many : Int} {σ : Int × Int} (hm4 : many ≠ 6) (hw : 0 < w) (hd : d ≤ rows) : fWl f n w d rows many σ = feS f n (stpS f n w d (go f n σ)) := by
  unfold fWl
  rw [lbS_ok hm4 hw hd]
theorem qY_p {f : Nat → Int32} {W W1 : WT3} {n w d rows many count : Int} {s : Nat → Int32} {tok st sp r t1 s1 p1 fa fat many1 a1 a2 a3 z r2 nu : Int} (hm4 : many ≠ 6) (hw : 0 < w) (hd : d ≤ rows) (hn : LkC f n sp a1 a2 a3) (hz : z ≠ 0) (h2 : qP f n w d count s z a1 a2 a3 r2 nu t1 s1 p1 fa fat) (e2 : r2 = 0) (hr : r = 0) : qY f n w d rows many count W tok st sp r t1 s1 p1 fa fat many1 W1 := by
  intro hc hrd hm σ hσ hk
  obtain ⟨z1, k1⟩ := LkC.go hk hσ hn
  have o1 := (h2 hc _ z1 k1).1.o e2
  rw [rPl_1 hz] at o1
  refine ⟨OcC_t hr ((fWl_e hm4 hw hd).trans ?_) o1, fun q => absurd (hr.symm.trans q) (by decide)⟩
  unfold stpS
  rw [rP_o o1.1, feS_o o1.1]
theorem qY_w {f : Nat → Int32} {W W1 : WT3} {n w d rows many count : Int} {s : Nat → Int32} {tok st sp r t1 s1 p1 fa fat many1 a1 a2 a3 z r2 nu b1 b2 b3 fb fc r3 : Int} (hm4 : many ≠ 6) (hw : 0 < w) (hd : d ≤ rows) (hn : LkC f n sp a1 a2 a3) (hz : z ≠ 0) (h2 : qP f n w d count s z a1 a2 a3 r2 nu b1 b2 b3 fb fc) (e2 : r2 ≠ 0) (h3 : qW f n 5 (txB "steps") b1 b2 b3 r3 t1 s1 p1 fa fat) (e3 : r3 = 0) (hr : r = 0) : qY f n w d rows many count W tok st sp r t1 s1 p1 fa fat many1 W1 := by
  intro hc hrd hm σ hσ hk
  obtain ⟨z1, k1⟩ := LkC.go hk hσ hn
  obtain ⟨z2, k2⟩ := (h2 hc _ z1 k1).1.z e2
  rw [rPl_1 hz] at z2 k2
  have o1 := (h3 _ z2 asc_steps k2).o e3
  refine ⟨OcC_t hr ((fWl_e hm4 hw hd).trans ?_) o1, fun q => absurd (hr.symm.trans q) (by decide)⟩
  unfold stpS rP
  rw [rW_o o1.1, feS_o o1.1]
/-- rows south of a place -/
theorem rows_below {w d r c : Int} (hw : 0 < w) (h0 : 0 ≤ c) (h1 : c ≤ w - 1) : (w * d - 1 - (w * r + c)) / w = d - 1 - r := by
  have e : w * d - 1 - (w * r + c) = (w - 1 - c) + w * (d - 1 - r) := by
    rw [Int.mul_sub, Int.mul_sub]; omega
  rw [e, Int.add_mul_ediv_left _ _ (show w ≠ 0 by omega), Int.ediv_eq_zero_of_lt (show 0 ≤ w - 1 - c by omega) (show w - 1 - c < w by omega)]
  omega
theorem below_at {f : Nat → Int32} {n w d count nu mn : Int} {σ : Int × Int} {x y wd : Int32} (hw : 0 < w) (hc : count = w * d) (hz : (rW f n 0 (d - 1) (rW f n 0 (w - 1) σ)).1 = 0) (hnu : nu = sC f n w σ) (ey : y.toInt = count - 1 - nu) (ewd : wd.toInt = w) (ex : x = y / wd) (hmn : mn ≤ 3 ∧ mn ≤ x.toInt ∧ (mn = 3 ∨ mn = x.toInt)) : mn = min 3 (d - 1 - tN f n (rW f n 0 (w - 1) σ).2) := by
  obtain ⟨z1, a1, a2, a3, -⟩ := rW_0 hz
  obtain ⟨-, -, b2, b3, -⟩ := rW_0 z1
  have hp := pl_in (w := w) (d := d) b2 b3 a2 a3
  unfold sC at hnu
  have hx := ti_divb ex (by omega) (by omega)
  have hb := rows_below (w := w) (d := d) (r := tN f n (rW f n 0 (w - 1) σ).2) (c := tN f n σ.2) hw b2 b3
  rw [ey, ewd, hnu, hc, hb] at hx
  rw [Int.min_def]
  split <;> omega
theorem qY_n {f : Nat → Int32} {W W1 : WT3} {n w d rows many count : Int} {s : Nat → Int32} {tok st sp r t1 s1 p1 fa fat many1 a1 a2 a3 z r2 nu b1 b2 b3 fb fc r3 c1 c2 c3 fd fe lo mn r4 nv : Int} {x y wd : Int32} (hm4 : many ≠ 6) (hw : 0 < w) (hd : d ≤ rows) (hn : LkC f n sp a1 a2 a3) (hz : z ≠ 0) (h2 : qP f n w d count s z a1 a2 a3 r2 nu b1 b2 b3 fb fc) (e2 : r2 = 1) (h3 : qW f n 5 (txB "steps") b1 b2 b3 r3 c1 c2 c3 fd fe) (e3 : r3 ≠ 0) (ey : y.toInt = count - 1 - nu) (ewd : wd.toInt = w) (ex : x = y / wd) (hmn : mn ≤ 3 ∧ mn ≤ x.toInt ∧ (mn = 3 ∨ mn = x.toInt)) (hlo : lo = 1) (h4 : qN f n lo mn c1 c2 c3 r4 nv t1 s1 p1 fa fat) (e4 : r4 = 0) (hr : r = 0) : qY f n w d rows many count W tok st sp r t1 s1 p1 fa fat many1 W1 := by
  subst hlo
  intro hc hrd hm σ hσ hk
  obtain ⟨z1, k1⟩ := LkC.go hk hσ hn
  obtain ⟨o2, v2⟩ := h2 hc _ z1 k1
  obtain ⟨z2, k2⟩ := o2.z (by omega)
  rw [rPl_1 hz] at z2 k2
  have hq := below_at hw hc z2 (v2 e2) ey ewd ex hmn
  obtain ⟨z3, k3⟩ := (h3 _ z2 asc_steps k2).z e3
  have o1 := (h4 _ z3 k3).1.o e4
  rw [hq] at o1
  refine ⟨OcC_t hr ((fWl_e hm4 hw hd).trans ?_) o1, fun q => absurd (hr.symm.trans q) (by decide)⟩
  unfold stpS rP
  rw [feS_o o1.1]
theorem feS_1 {f : Nat → Int32} {n : Int} {σ : Int × Int} (h0 : σ.1 = 0) (h : ¬ isW f n 4 (txB "fell") σ.2 ∧ ¬ isW f n 3 (txB "dry") σ.2) : feS f n σ = (1, σ.2) := by
  unfold feS
  rw [ck_y h, fl_z h0, go_o (pn (show (1 : Int) ≠ 0 by decide))]
theorem feS_ok {f : Nat → Int32} {n : Int} {σ : Int × Int} (h : ¬ (¬ isW f n 4 (txB "fell") σ.2 ∧ ¬ isW f n 3 (txB "dry") σ.2)) : feS f n σ = go f n σ := by
  unfold feS
  rw [ck_n h]
theorem stpS_at {f : Nat → Int32} {n w d count : Int} {s : Nat → Int32} {a1 a2 a3 z r2 nu b1 b2 b3 fb fc r3 c1 c2 c3 fd fe lo mn r4 nv d1 d2 d3 ff fg : Int} {x y wd : Int32} {τ : Int × Int} (hw : 0 < w) (hc : count = w * d) (z1 : τ.1 = 0) (k1 : LkC f n τ.2 a1 a2 a3) (hz : z ≠ 0) (h2 : qP f n w d count s z a1 a2 a3 r2 nu b1 b2 b3 fb fc) (e2 : r2 = 1) (h3 : qW f n 5 (txB "steps") b1 b2 b3 r3 c1 c2 c3 fd fe) (e3 : r3 ≠ 0) (ey : y.toInt = count - 1 - nu) (ewd : wd.toInt = w) (ex : x = y / wd) (hmn : mn ≤ 3 ∧ mn ≤ x.toInt ∧ (mn = 3 ∨ mn = x.toInt)) (hlo : lo = 1) (h4 : qN f n lo mn c1 c2 c3 r4 nv d1 d2 d3 ff fg) (e4 : r4 ≠ 0) : (stpS f n w d τ).1 = 0 ∧ LkC f n (stpS f n w d τ).2 d1 d2 d3 := by
  subst hlo
  obtain ⟨o2, v2⟩ := h2 hc _ z1 k1
  obtain ⟨z2, k2⟩ := o2.z (by omega)
  rw [rPl_1 hz] at z2 k2
  have hq := below_at hw hc z2 (v2 e2) ey ewd ex hmn
  obtain ⟨z3, k3⟩ := (h3 _ z2 asc_steps k2).z e3
  have o1 := (h4 _ z3 k3).1.z e4
  rw [hq] at o1
  exact o1
theorem qY_f {f : Nat → Int32} {W W1 : WT3} {n w d rows many count : Int} {s : Nat → Int32} {tok st sp r t1 s1 p1 fa fat many1 a1 a2 a3 z r2 nu b1 b2 b3 fb fc r3 c1 c2 c3 fd fe lo mn r4 nv d1 d2 d3 ff fg r5 r6 : Int} {x y wd : Int32} (hm4 : many ≠ 6) (hw : 0 < w) (hd : d ≤ rows) (hn : LkC f n sp a1 a2 a3) (hz : z ≠ 0) (h2 : qP f n w d count s z a1 a2 a3 r2 nu b1 b2 b3 fb fc) (e2 : r2 = 1) (h3 : qW f n 5 (txB "steps") b1 b2 b3 r3 c1 c2 c3 fd fe) (e3 : r3 ≠ 0) (ey : y.toInt = count - 1 - nu) (ewd : wd.toInt = w) (ex : x = y / wd) (hmn : mn ≤ 3 ∧ mn ≤ x.toInt ∧ (mn = 3 ∨ mn = x.toInt)) (hlo : lo = 1) (h4 : qN f n lo mn c1 c2 c3 r4 nv d1 d2 d3 ff fg) (e4 : r4 ≠ 0) (h5 : wdP f d1 d2 d3 4 (txB "fell") r5) (e5 : r5 = 0) (h6 : wdP f d1 d2 d3 3 (txB "dry") r6) (e6 : r6 = 0) (hr : r = 0) (hf : fa = 1) (ht : fat = d2) : qY f n w d rows many count W tok st sp r t1 s1 p1 fa fat many1 W1 := by
  intro hc hrd hm σ hσ hk
  obtain ⟨z1, k1⟩ := LkC.go hk hσ hn
  obtain ⟨z4, k4⟩ := stpS_at hw hc z1 k1 hz h2 e2 h3 e3 ey ewd ex hmn hlo h4 e4
  have q5 := h5.no asc_fell e5
  have q6 := h6.no asc_dry e6
  rw [k4.wd] at q5 q6
  exact ⟨OcC_k hr ((fWl_e hm4 hw hd).trans (feS_1 z4 ⟨q5, q6⟩)) (by decide) hf (ht.trans k4.2.2.1), fun q => absurd (hr.symm.trans q) (by decide)⟩
theorem qY_y {f : Nat → Int32} {W W1 : WT3} {n w d rows many count : Int} {s : Nat → Int32} {tok st sp r t1 s1 p1 fa fat many1 a1 a2 a3 z r2 b1 b2 b3 fb fc r3 c1 c2 c3 fd fe lo mn r4 d1 d2 d3 ff fg : Int} {x y wd nu nv k v : Int32} {r5 : Int} (hm4 : many ≠ 6) (hw : 0 < w) (hd : d ≤ rows) (hn : LkC f n sp a1 a2 a3) (hz : z ≠ 0) (h2 : qP f n w d count s z a1 a2 a3 r2 nu.toInt b1 b2 b3 fb fc) (e2 : r2 = 1) (h3 : qW f n 5 (txB "steps") b1 b2 b3 r3 c1 c2 c3 fd fe) (e3 : r3 ≠ 0) (ey : y.toInt = count - 1 - nu.toInt) (ewd : wd.toInt = w) (ex : x = y / wd) (hmn : mn ≤ 3 ∧ mn ≤ x.toInt ∧ (mn = 3 ∨ mn = x.toInt)) (hlo : lo = 1) (h4 : qN f n lo mn c1 c2 c3 r4 nv.toInt d1 d2 d3 ff fg) (e4 : r4 ≠ 0) (h5 : wdP f d1 d2 d3 4 (txB "fell") r5) (hfd : r5 ≠ 0 ∨ isWd f d1 d2 d3 3 (txB "dry")) (hn5 : LkC f n d3 t1 s1 p1) (hr : r = 1) (hm1 : many1 = many + 1) (hk0 : k.toInt = many) (h0 : 0 ≤ many) (eF : upd W.1 (Int32.toNatClampNeg k) nu = W1.1) (eS : upd W.2.1 (Int32.toNatClampNeg k) nv = W1.2.1) (eL : upd W.2.2 (Int32.toNatClampNeg k) v = W1.2.2) (hv : v.toInt = r5) : qY f n w d rows many count W tok st sp r t1 s1 p1 fa fat many1 W1 := by
  intro hc hrd hm σ hσ hk
  obtain ⟨z1, k1⟩ := LkC.go hk hσ hn
  obtain ⟨z4, k4⟩ := stpS_at hw hc z1 k1 hz h2 e2 h3 e3 ey ewd ex hmn hlo h4 e4
  have hfe : isWd f d1 d2 d3 4 (txB "fell") ∨ isWd f d1 d2 d3 3 (txB "dry") := hfd.elim (fun q => Or.inl (h5.yes asc_fell q)) Or.inr
  rw [k4.wd, k4.wd] at hfe
  obtain ⟨o2, v2⟩ := h2 hc _ z1 k1
  obtain ⟨z2, k2⟩ := o2.z (by omega)
  rw [rPl_1 hz] at z2 k2
  have hq := below_at hw hc z2 (v2 e2) ey ewd ex hmn
  obtain ⟨z3, k3⟩ := (h3 _ z2 asc_steps k2).z e3
  subst hlo
  obtain ⟨o4, v4⟩ := h4 _ z3 k3
  have w4 := v4 (o4.r1 e4)
  have hL : v.toInt = kL f n w d σ := by
    unfold kL
    rw [hv]
    have g := h5
    by_cases q : r5 = 0
    · have q5 := h5.no asc_fell q
      rw [k4.wd] at q5
      rw [if_neg q5, q]
    · have q5 := h5.yes asc_fell q
      rw [k4.wd] at q5
      rw [if_pos q5]
      exact h5.one asc_fell q
  exact ⟨OcC_y hr ((fWl_e hm4 hw hd).trans (feS_ok (fun q => hfe.elim q.1 q.2))) (LkC.go k4 z4 hn5), fun _ => ⟨hm1, ap1_at eF hk0 h0 (v2 e2), ap1_at eS hk0 h0 w4, ap1_at eL hk0 h0 hL⟩⟩
/-- isRow of the class -/
theorem irP_1 {f : Nat → Int32} {tok st sp w r : Int} (h : tok ≠ 1 ∨ sp - st ≠ w) (hr : r = 0) : irP f tok st sp w r := by
  intro n j hk
  refine Or.inr ⟨hr, fun q => ?_⟩
  obtain ⟨q1, q2, -⟩ := q
  obtain ⟨-, h1, h2, h3⟩ := hk
  omega
theorem ix_rw {f : Nat → Int32} {st sp r : Int} {i x y : Int32} (hd : wds f st sp) (h1 : st ≤ i.toInt) (h2 : i.toInt < sp) (ex : x = f i.toNatClampNeg) (ey : (x.toUInt32 % 65536).toInt32 = y) (hi : ixP (txB "odghu") 5 y.toInt r) : (f i.toInt.toNat).toInt = x.toInt ∧ ((r = -1 ∧ ¬ rwL x.toInt) ∨ (r = 0 ∧ x.toInt = 111) ∨ (r = 1 ∧ x.toInt = 100) ∨ (r = 2 ∧ x.toInt = 103) ∨ (r = 3 ∧ x.toInt = 104) ∨ (r = 4 ∧ x.toInt = 117)) := by
  have g := hd.2 i.toInt h1 h2
  have e1 : (f i.toInt.toNat).toInt = x.toInt := by rw [ex]; rfl
  have e2 := ch_c ey (by omega) (by omega)
  have e3 := ix5 hi (by omega) (by omega)
  rw [e2] at e3
  exact ⟨e1, e3⟩
theorem irP_2 {f : Nat → Int32} {tok st sp w r r9 : Int} {i x y : Int32} (ht : tok = 1) (h1 : st ≤ i.toInt) (h2 : i.toInt < sp) (ex : x = f i.toNatClampNeg) (ey : (x.toUInt32 % 65536).toInt32 = y) (hi : ixP (txB "odghu") 5 y.toInt r9) (h9 : r9 < 0) (hr : r = 0) : irP f tok st sp w r := by
  intro n j hk
  refine Or.inr ⟨hr, fun q => ?_⟩
  obtain ⟨e1, e3⟩ := ix_rw (hk.wl ht) h1 h2 ex ey hi
  obtain ⟨-, a1, a2, a3⟩ := hk
  have q3 := q.2.2 i.toInt (by omega) (by omega)
  rw [e1] at q3
  rcases e3 with q9 | q9 | q9 | q9 | q9 | q9
  · exact q9.2 q3
  · omega
  · omega
  · omega
  · omega
  · omega
theorem irP_3 {f : Nat → Int32} {tok st sp w r i : Int} (ht : tok = 1) (hl : sp - st = w) (hA : wds f st sp → rwA f st i) (hi : sp ≤ i) (hr : r = 1) : irP f tok st sp w r := by
  intro n j hk
  have h1 := hA (hk.wl ht)
  obtain ⟨-, a1, a2, a3⟩ := hk
  refine Or.inl ⟨hr, by omega, by omega, fun k k1 k2 => h1 k (by omega) (by omega)⟩
/-- put -/
def ptP (count : Int) (f f1 : Nat → Int32) (c : Int) (v : Int32) : Prop := 0 ≤ c → c < count → f1 = upd f c.toNat v
/-- sorts by letters; a row's letters written from b on -/
def sL (c : Int) : Int := if c = 100 then 1 else if c = 103 then 2 else if c = 104 then 3 else 0
def rwN (f : Nat → Int32) (a b i : Int) (s s1 : Nat → Int32) : Prop := (∀ k : Nat, (k : Int) < b → s1 k = s k) ∧ ∀ k : Nat, (k : Int) < i → (s1 (b.toNat + k)).toInt = sL (f (a.toNat + k)).toInt
theorem rwN_0 {f : Nat → Int32} {a b i : Int} {s : Nat → Int32} (h : i ≤ 0) : rwN f a b i s s := ⟨fun _ _ => rfl, fun k hk => by omega⟩
theorem rwN_up {f : Nat → Int32} {a b i i' c : Int} {s s1 s2 : Nat → Int32} {v : Int32} (h : rwN f a b i s s1) (hb : 0 ≤ b) (h0 : 0 ≤ i) (hc : c = b + i) (e : s2 = upd s1 c.toNat v) (hv : v.toInt = sL (f (a.toNat + i.toNat)).toInt) (hi : i' = i + 1) : rwN f a b i' s s2 := by
  refine ⟨fun k hk => ?_, fun k hk => ?_⟩
  · rw [e]
    unfold upd
    rw [if_neg (by omega)]
    exact h.1 k hk
  · rw [e]
    unfold upd
    by_cases hq : (k : Int) < i
    · rw [if_neg (by omega)]
      exact h.2 k hq
    · have hk' : k = i.toNat := by omega
      rw [if_pos (by omega), hv, hk']
theorem cu_up {f : Nat → Int32} {s k : Nat} : cu f s (k + 1) = cu f s k + (if (f (s + k)).toInt = 117 then 1 else 0) := rfl
theorem cu_ge {f : Nat → Int32} {s : Nat} : ∀ (k m : Nat), k ≤ m → cu f s k ≤ cu f s m
  | k, 0, h => by
    have : k = 0 := by omega
    subst this
    exact Int.le_refl _
  | k, m + 1, h => by
    by_cases hq : k = m + 1
    · subst hq; exact Int.le_refl _
    · have h1 := cu_ge (f := f) (s := s) k m (by omega)
      have h2 := cu_up (f := f) (s := s) (k := m)
      rw [h2]
      split <;> omega
theorem cu_0 {f : Nat → Int32} {s k : Nat} : 0 ≤ cu f s k := cu_ge (f := f) (s := s) 0 k (Nat.zero_le k)
/-- what the letter at i does: its count, its sort -/
theorem rl_at {f : Nat → Int32} {st sp r i : Int} {a x y : Int32} (hA : rwA f st sp) (h0 : 0 ≤ st) (hi : 0 ≤ i) (h2 : st + i < sp) (ea : a.toInt = st + i) (ex : x = f a.toNatClampNeg) (ey : (x.toUInt32 % 65536).toInt32 = y) (hx : ixP (txB "odghu") 5 y.toInt r) : (f (st.toNat + i.toNat)).toInt = x.toInt ∧ ((r = 0 ∧ x.toInt = 111) ∨ (r = 1 ∧ x.toInt = 100) ∨ (r = 2 ∧ x.toInt = 103) ∨ (r = 3 ∧ x.toInt = 104) ∨ (r = 4 ∧ x.toInt = 117)) := by
  have e1 : (f (st.toNat + i.toNat)).toInt = x.toInt := rd_st hi h0 ea ex
  have g := hA (st + i) (by omega) h2
  rw [show (st + i).toNat = st.toNat + i.toNat by omega, e1] at g
  unfold rwL at g
  have e2 := ch_c ey (by omega) (by omega)
  have e3 := ix5 hx (by omega) (by omega)
  rw [e2] at e3
  refine ⟨e1, ?_⟩
  rcases e3 with q | q
  · exact absurd g q.2
  · exact q
theorem rl_u {f : Nat → Int32} {st sp r i i' : Int} {a x y : Int32} (hA : rwA f st sp) (h0 : 0 ≤ st) (hi : 0 ≤ i) (h2 : st + i < sp) (ea : a.toInt = st + i) (ex : x = f a.toNatClampNeg) (ey : (x.toUInt32 % 65536).toInt32 = y) (hx : ixP (txB "odghu") 5 y.toInt r) (hr : 3 < r) (e : i' = i + 1) : cu f st.toNat i'.toNat = cu f st.toNat i.toNat + 1 ∧ sL (f (st.toNat + i.toNat)).toInt = 0 := by
  obtain ⟨e1, e2⟩ := rl_at hA h0 hi h2 ea ex ey hx
  rw [show i'.toNat = i.toNat + 1 by omega, cu_up, e1, if_pos (by omega)]
  refine ⟨rfl, ?_⟩
  unfold sL
  rw [if_neg (by omega), if_neg (by omega), if_neg (by omega)]
theorem rl_n {f : Nat → Int32} {st sp r i i' : Int} {a x y : Int32} (hA : rwA f st sp) (h0 : 0 ≤ st) (hi : 0 ≤ i) (h2 : st + i < sp) (ea : a.toInt = st + i) (ex : x = f a.toNatClampNeg) (ey : (x.toUInt32 % 65536).toInt32 = y) (hx : ixP (txB "odghu") 5 y.toInt r) (hr : r ≤ 3) (e : i' = i + 1) : cu f st.toNat i'.toNat = cu f st.toNat i.toNat ∧ sL (f (st.toNat + i.toNat)).toInt = r := by
  obtain ⟨e1, e2⟩ := rl_at hA h0 hi h2 ea ex ey hx
  rw [show i'.toNat = i.toNat + 1 by omega, cu_up, e1, if_neg (by omega)]
  refine ⟨by omega, ?_⟩
  unfold sL
  (repeat' split) <;> omega
/-- readRow of the class -/
noncomputable def rwB (f : Nat → Int32) (n w d rows : Int) (σ : Int × Int) : Int × Int := go f n (ck (w ≤ 0) 6 (ck (0 < w ∧ rows = d) 5 σ))
theorem rl_uc {f : Nat → Int32} {st sp r i i' : Int} {a x y : Int32} (hA : rwA f st sp) (h0 : 0 ≤ st) (hi : 0 ≤ i) (h2 : st + i < sp) (ea : a.toInt = st + i) (ex : x = f a.toNatClampNeg) (ey : (x.toUInt32 % 65536).toInt32 = y) (hx : ixP (txB "odghu") 5 y.toInt r) (hr : 3 < r) (e : i' = i + 1) : (f (st.toNat + i.toNat)).toInt = 117 := by
  obtain ⟨e1, e2⟩ := rl_at hA h0 hi h2 ea ex ey hx
  omega
theorem rl_nc {f : Nat → Int32} {st sp r i i' : Int} {a x y : Int32} (hA : rwA f st sp) (h0 : 0 ≤ st) (hi : 0 ≤ i) (h2 : st + i < sp) (ea : a.toInt = st + i) (ex : x = f a.toNatClampNeg) (ey : (x.toUInt32 % 65536).toInt32 = y) (hx : ixP (txB "odghu") 5 y.toInt r) (hr : r ≤ 3) (e : i' = i + 1) : (f (st.toNat + i.toNat)).toInt ≠ 117 := by
  obtain ⟨e1, e2⟩ := rl_at hA h0 hi h2 ea ex ey hx
  omega
theorem nar_z {x : Int32} (h0 : 0 ≤ x.toInt) (h1 : x.toInt ≤ 1) : vp_nar .boolean x = x := by
  simp only [vp_nar, nar_b h0 h1]
theorem fRw_eq {f : Nat → Int32} {n w d rows uns : Int} {σ : Int × Int} : fRw f n w d rows uns σ = go f n (ck (5 < uns + cu f (tS f n (rwB f n w d rows σ).2).toNat w.toNat) 5 (ck (¬ rwK f n w (rwB f n w d rows σ).2) 1 (rwB f n w d rows σ))) := rfl
theorem fRw_o {f : Nat → Int32} {n w d rows uns : Int} {σ τ : Int × Int} (e : rwB f n w d rows σ = τ) (h : τ.1 ≠ 0) : fRw f n w d rows uns σ = τ := by
  rw [fRw_eq, e, ck_o h, ck_o h, go_o h]
theorem rwB_6 {f : Nat → Int32} {n w d rows : Int} {σ : Int × Int} (h0 : σ.1 = 0) (h : w ≤ 0) : rwB f n w d rows σ = (6, σ.2) := by
  unfold rwB
  rw [ck_n (show ¬ (0 < w ∧ rows = d) by omega), ck_y h, fl_z h0, go_o (pn (show (6 : Int) ≠ 0 by decide))]
theorem rwB_5 {f : Nat → Int32} {n w d rows : Int} {σ : Int × Int} (h0 : σ.1 = 0) (h : 0 < w ∧ rows = d) : rwB f n w d rows σ = (5, σ.2) := by
  unfold rwB
  rw [ck_y h, fl_z h0, ck_o (pn (show (5 : Int) ≠ 0 by decide)), go_o (pn (show (5 : Int) ≠ 0 by decide))]
theorem rwB_ok {f : Nat → Int32} {n w d rows : Int} {σ : Int × Int} (hw : 0 < w) (hd : rows ≠ d) : rwB f n w d rows σ = go f n σ := by
  unfold rwB
  rw [ck_n (show ¬ (0 < w ∧ rows = d) by omega), ck_n (show ¬ w ≤ 0 by omega)]
def uU (f : Nat → Int32) (a b : Int) (u : Nat → Int32) (n : Int) : Nat → (Nat → Int32)
  | 0 => u
  | i + 1 => if (f (a.toNat + i)).toInt = 117 then upd (uU f a b u n i) (n + cu f a.toNat i).toNat (Int32.ofInt (b + i)) else uU f a b u n i
theorem uU_y {f : Nat → Int32} {a b : Int} {u : Nat → Int32} {n : Int} {i : Nat} (h : (f (a.toNat + i)).toInt = 117) : uU f a b u n (i + 1) = upd (uU f a b u n i) (n + cu f a.toNat i).toNat (Int32.ofInt (b + i)) := if_pos h
theorem uU_n {f : Nat → Int32} {a b : Int} {u : Nat → Int32} {n : Int} {i : Nat} (h : (f (a.toNat + i)).toInt ≠ 117) : uU f a b u n (i + 1) = uU f a b u n i := if_neg h
theorem uU_wy {f : Nat → Int32} {a b i i1 m : Int} {u u1 u2 : Nat → Int32} {n : Int} {I v : Int32} (h : u1 = uU f a b u n i.toNat) (h0 : 0 ≤ i) (hc : (f (a.toNat + i.toNat)).toInt = 117) (hm : m = n + cu f a.toNat i.toNat) (hI : I.toInt = m) (hv : v.toInt = b + i) (e : upd u1 (Int32.toNatClampNeg I) v = u2) (hi : i1 = i + 1) : u2 = uU f a b u n i1.toNat := by
  have nI : Int32.toNatClampNeg I = m.toNat := by rw [← hI]; rfl
  rw [show i1.toNat = i.toNat + 1 by omega, uU_y hc, ← h, ← hm, ← e, nI, show ((i.toNat : Nat) : Int) = i by omega, ← hv, Int32.ofInt_toInt]
theorem uU_wn {f : Nat → Int32} {a b i i1 : Int} {u u1 : Nat → Int32} {n : Int} (h : u1 = uU f a b u n i.toNat) (h0 : 0 ≤ i) (hc : (f (a.toNat + i.toNat)).toInt ≠ 117) (hi : i1 = i + 1) : u1 = uU f a b u n i1.toNat := by
  rw [show i1.toNat = i.toNat + 1 by omega, uU_n hc]
  exact h
def qRw (f : Nat → Int32) (n w d rows uns count : Int) (s : Nat → Int32) (u : Nat → Int32) (tok st sp r t1 s1 p1 fa fat rows1 uns1 : Int) (sf1 u1 : Nat → Int32) : Prop := count = w * d → rows ≤ d → ∀ σ : Int × Int, σ.1 = 0 → LkC f n σ.2 tok st sp → OcC f n (fRw f n w d rows uns σ) r t1 s1 p1 fa fat ∧ (r = 1 → rows1 = rows + 1 ∧ uns1 = uns + cu f (tS f n (go f n σ).2).toNat w.toNat ∧ rwN f (tS f n (go f n σ).2) (w * rows) w s sf1 ∧ u1 = uU f (tS f n (go f n σ).2) (w * rows) u uns w.toNat)
theorem qRw_6 {f : Nat → Int32} {n w d rows uns count : Int} {s : Nat → Int32} {tok st sp r t1 s1 p1 fa fat rows1 uns1 : Int} {sf1 u u1 : Nat → Int32} (h : w ≤ 0) (hr : r = 0) (hf : fa = 6) (ht : fat = st) : qRw f n w d rows uns count s u tok st sp r t1 s1 p1 fa fat rows1 uns1 sf1 u1 := by
  intro hc hrd σ hσ hk
  exact ⟨OcC_k hr (fRw_o (rwB_6 hσ h) (pn (by decide))) (by decide) hf (ht.trans hk.2.2.1), fun q => absurd (hr.symm.trans q) (by decide)⟩
theorem qRw_5 {f : Nat → Int32} {n w d rows uns count : Int} {s : Nat → Int32} {tok st sp r t1 s1 p1 fa fat rows1 uns1 : Int} {sf1 u u1 : Nat → Int32} (h : 0 < w) (hd : d ≤ rows) (hr : r = 0) (hf : fa = 5) (ht : fat = st) : qRw f n w d rows uns count s u tok st sp r t1 s1 p1 fa fat rows1 uns1 sf1 u1 := by
  intro hc hrd σ hσ hk
  exact ⟨OcC_k hr (fRw_o (rwB_5 hσ ⟨h, by omega⟩) (pn (by decide))) (by decide) hf (ht.trans hk.2.2.1), fun q => absurd (hr.symm.trans q) (by decide)⟩
theorem qRw_1 {f : Nat → Int32} {n w d rows uns count : Int} {s : Nat → Int32} {tok st sp r t1 s1 p1 fa fat rows1 uns1 a1 a2 a3 r9 : Int} {sf1 u u1 : Nat → Int32} (hw : 0 < w) (hd : rows < d) (hn : LkC f n sp a1 a2 a3) (h9 : irP f a1 a2 a3 w r9) (e9 : r9 = 0) (hr : r = 0) (hf : fa = 1) (ht : fat = a2) : qRw f n w d rows uns count s u tok st sp r t1 s1 p1 fa fat rows1 uns1 sf1 u1 := by
  intro hc hrd σ hσ hk
  obtain ⟨z1, k1⟩ := LkC.go hk hσ hn
  have hq : ¬ rwK f n w (go f n σ).2 := by
    rcases h9 _ _ k1 with q | q
    · omega
    · exact q.2
  have e : fRw f n w d rows uns σ = (1, (go f n σ).2) := by
    rw [fRw_eq, rwB_ok hw (by omega), ck_y hq, fl_z z1, ck_o (pn (show (1 : Int) ≠ 0 by decide)), go_o (pn (show (1 : Int) ≠ 0 by decide))]
  exact ⟨OcC_k hr e (by decide) hf (ht.trans k1.2.2.1), fun q => absurd (hr.symm.trans q) (by decide)⟩
theorem irA {f : Nat → Int32} {n a1 a2 a3 w r9 : Int} {j : Int} (h9 : irP f a1 a2 a3 w r9) (e9 : r9 ≠ 0) (k1 : LkC f n j a1 a2 a3) : rwK f n w j ∧ rwA f a2 a3 := by
  rcases h9 _ _ k1 with q | q
  · refine ⟨q.2, fun k h1 h2 => ?_⟩
    obtain ⟨-, b1, b2, b3⟩ := k1
    exact q.2.2.2 k (by omega) (by omega)
  · exact absurd q.1 e9
theorem qRw_m {f : Nat → Int32} {n w d rows uns count : Int} {s : Nat → Int32} {tok st sp r t1 s1 p1 fa fat rows1 uns1 a1 a2 a3 r9 v i r5 : Int} {a x y : Int32} {sf1 u u1 : Nat → Int32} (hw : 0 < w) (hd : rows < d) (hn : LkC f n sp a1 a2 a3) (h9 : irP f a1 a2 a3 w r9) (e9 : r9 ≠ 0) (hu : rwA f a2 a3 → v = uns + cu f a2.toNat i.toNat) (hu5 : v = 5) (hi : 0 ≤ i) (hiw : i < w) (h0 : 0 ≤ a2) (ha : a3 - a2 = w) (ea : a.toInt = a2 + i) (ex : x = f a.toNatClampNeg) (ey : (x.toUInt32 % 65536).toInt32 = y) (hx : ixP (txB "odghu") 5 y.toInt r5) (h5 : 3 < r5) (hr : r = 0) (hf : fa = 5) (ht : fat = a2) : qRw f n w d rows uns count s u tok st sp r t1 s1 p1 fa fat rows1 uns1 sf1 u1 := by
  intro hc hrd σ hσ hk
  obtain ⟨z1, k1⟩ := LkC.go hk hσ hn
  obtain ⟨hK, hA⟩ := irA h9 e9 k1
  have c1 := (rl_u (i' := i + 1) hA h0 hi (by omega) ea ex ey hx h5 rfl).1
  have c2 := cu_ge (f := f) (s := a2.toNat) (i + 1).toNat w.toNat (by omega)
  have c3 := hu hA
  have e2 : tS f n (go f n σ).2 = a2 := k1.2.2.1.symm
  have e : fRw f n w d rows uns σ = (5, (go f n σ).2) := by
    rw [fRw_eq, rwB_ok hw (by omega), ck_n (show ¬ ¬ rwK f n w (go f n σ).2 from fun q => q hK), e2, ck_y (show 5 < uns + cu f a2.toNat w.toNat by omega), fl_z z1, go_o (pn (show (5 : Int) ≠ 0 by decide))]
  exact ⟨OcC_k hr e (by decide) hf (ht.trans k1.2.2.1), fun q => absurd (hr.symm.trans q) (by decide)⟩
theorem qRw_y {f : Nat → Int32} {n w d rows uns count : Int} {s : Nat → Int32} {tok st sp r t1 s1 p1 fa fat rows1 uns1 a1 a2 a3 r9 i b : Int} {sf1 u u1 : Nat → Int32} (hw : 0 < w) (hd : rows < d) (hn : LkC f n sp a1 a2 a3) (h9 : irP f a1 a2 a3 w r9) (e9 : r9 ≠ 0) (hu : rwA f a2 a3 → uns1 = uns + cu f a2.toNat i.toNat) (hu5 : uns1 ≤ 5) (hs : count = w * d → rwA f a2 a3 → rwN f a2 b i s sf1) (hb : b = w * rows) (hi : i = w) (hU : rwA f a2 a3 → u1 = uU f a2 b u uns i.toNat) (hn2 : LkC f n a3 t1 s1 p1) (hr : r = 1) (h1 : rows1 = rows + 1) : qRw f n w d rows uns count s u tok st sp r t1 s1 p1 fa fat rows1 uns1 sf1 u1 := by
  rw [hi] at hu
  rw [hb, hi] at hs hU
  intro hc hrd σ hσ hk
  obtain ⟨z1, k1⟩ := LkC.go hk hσ hn
  obtain ⟨hK, hA⟩ := irA h9 e9 k1
  have c3 := hu hA
  have e2 : tS f n (go f n σ).2 = a2 := k1.2.2.1.symm
  have e : fRw f n w d rows uns σ = go f n (go f n σ) := by
    rw [fRw_eq, rwB_ok hw (by omega), ck_n (show ¬ ¬ rwK f n w (go f n σ).2 from fun q => q hK), e2, ck_n (show ¬ 5 < uns + cu f a2.toNat w.toNat by omega)]
  refine ⟨OcC_y hr e (LkC.go k1 z1 hn2), fun _ => ⟨h1, ?_, ?_, ?_⟩⟩
  · rw [e2]; exact c3
  · rw [e2]; exact hs hc hA
  · rw [e2]; exact hU hA
end
