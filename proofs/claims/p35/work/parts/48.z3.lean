/-- readRow of the reference -/
theorem r79_y {f : Nat → Int32} {n W : Int} {σ : Int × Int} {s pl sp : Int} {w : Int64} {le nu fa wr : Int} (hk : LkM f n σ s pl sp w le nu fa wr) (h0 : σ.1 = 0) (h : s ≠ 2 ∨ le ≠ W) : ¬ (tK f n σ.2 = 1 ∧ tE f n σ.2 - tS f n σ.2 = W) := by
  intro q
  rcases h with h | h
  · apply h
    rw [(hk.pl h0).1, q.1]
    rfl
  · exact h ((hk.wo h0 q.1).1.trans q.2)
theorem r79_n {f : Nat → Int32} {n W : Int} {σ : Int × Int} {s pl sp : Int} {w : Int64} {le nu fa wr : Int} (hk : LkM f n σ s pl sp w le nu fa wr) (h0 : σ.1 = 0) (hs : s = 2) (hl : le = W) : ¬ ¬ (tK f n σ.2 = 1 ∧ tE f n σ.2 - tS f n σ.2 = W) := by
  intro q
  have h1 := kM_2 ((hk.pl h0).1.symm.trans hs)
  exact q ⟨h1, (hk.wo h0 h1).1.symm.trans hl⟩
theorem rwk_y {f : Nat → Int32} {n a k k1 : Int} {σ : Int × Int} {s pl sp : Int} {w : Int64} {le nu fa wr k' fa1 wr1 : Int} (hk : LkM f n (ck (¬ rwA f a (a + k)) 1 σ) s pl sp w le nu fa wr) (hf : fR s pl fa wr k' fa1 wr1) (e : k' = 1) (hbad : (ck (¬ rwA f a (a + k)) 1 σ).1 = 0 → ¬ rwL (f (a + k).toNat).toInt) (h0 : 0 ≤ k) (ek : k1 = k + 1) {s9 pl' sp' : Int} {w' : Int64} {le' nu' : Int} (h9 : s9 = 5) : LkM f n (ck (¬ rwA f a (a + k1)) 1 σ) s9 pl' sp' w' le' nu' fa1 wr1 := by
  have h1 : ck (¬ rwA f a (a + k1)) 1 σ = fl 1 (ck (¬ rwA f a (a + k)) 1 σ) := by
    by_cases z : σ.1 = 0
    · by_cases hA : rwA f a (a + k)
      · have e0 : ck (¬ rwA f a (a + k)) 1 σ = σ := ck_n (fun q => q hA)
        rw [e0]
        exact ck_y (fun q => hbad (by rw [e0]; exact z) (q (a + k) (by omega) (by omega)))
      · have e1 : ck (¬ rwA f a (a + k1)) 1 σ = (1, σ.2) := (ck_y (fun q => hA (fun j j1 j2 => q j j1 (by omega)))).trans (fl_z z)
        rw [e1, ck_y hA, fl_z z, fl_o (pn (show (1 : Int) ≠ 0 by decide))]
    · rw [ck_o z, ck_o z, fl_o z]
  rw [h1]
  rw [e] at hf
  exact hf.fl hk (by decide) h9
theorem rwk_n {f : Nat → Int32} {n a k k1 : Int} {σ : Int × Int} {s pl sp : Int} {w : Int64} {le nu fa wr : Int} (hk : LkM f n (ck (¬ rwA f a (a + k)) 1 σ) s pl sp w le nu fa wr) (hgood : (ck (¬ rwA f a (a + k)) 1 σ).1 = 0 → rwL (f (a + k).toNat).toInt) (ek : k1 = k + 1) : LkM f n (ck (¬ rwA f a (a + k1)) 1 σ) s pl sp w le nu fa wr := by
  have h1 : ck (¬ rwA f a (a + k1)) 1 σ = ck (¬ rwA f a (a + k)) 1 σ := by
    by_cases z : σ.1 = 0
    · by_cases hA : rwA f a (a + k)
      · have e0 : ck (¬ rwA f a (a + k)) 1 σ = σ := ck_n (fun q => q hA)
        have hg := hgood (by rw [e0]; exact z)
        rw [e0]
        refine ck_n (fun q => q (fun j j1 j2 => ?_))
        by_cases hj : j < a + k
        · exact hA j j1 hj
        · rw [show j = a + k by omega]
          exact hg
      · rw [ck_y hA]
        exact ck_y (fun q => hA (fun j j1 j2 => q j j1 (by omega)))
    · rw [ck_o z, ck_o z]
  rw [h1]
  exact hk
theorem rwk_end {f : Nat → Int32} {n W k : Int} {τ : Int × Int} {s pl sp : Int} {w : Int64} {le nu fa wr : Int} (hk : LkM f n (ck (¬ rwA f (tS f n τ.2) (tS f n τ.2 + k)) 1 (ck (¬ (tK f n τ.2 = 1 ∧ tE f n τ.2 - tS f n τ.2 = W)) 1 τ)) s pl sp w le nu fa wr) (hle : k ≤ W) (h : k = W ∨ s = 5) : LkM f n (ck (¬ rwK f n W τ.2) 1 τ) s pl sp w le nu fa wr := by
  have e : ck (¬ rwA f (tS f n τ.2) (tS f n τ.2 + k)) 1 (ck (¬ (tK f n τ.2 = 1 ∧ tE f n τ.2 - tS f n τ.2 = W)) 1 τ) = ck (¬ rwK f n W τ.2) 1 τ := by
    by_cases z : τ.1 = 0
    · by_cases hC : tK f n τ.2 = 1 ∧ tE f n τ.2 - tS f n τ.2 = W
      · have e1 : ck (¬ (tK f n τ.2 = 1 ∧ tE f n τ.2 - tS f n τ.2 = W)) 1 τ = τ := ck_n (fun q => q hC)
        have h2 := hC.2
        rw [e1] at hk
        rw [e1]
        by_cases hA : rwA f (tS f n τ.2) (tS f n τ.2 + k)
        · have e2 : ck (¬ rwA f (tS f n τ.2) (tS f n τ.2 + k)) 1 τ = τ := ck_n (fun q => q hA)
          rw [e2] at hk
          have hkW : k = W := h.resolve_right (fun q => hk.ne q z)
          rw [e2]
          exact (ck_n (fun q => q ⟨hC.1, hC.2, fun j j1 j2 => hA j j1 (by omega)⟩)).symm
        · rw [ck_y hA]
          exact (ck_y (fun q => hA (fun j j1 j2 => q.2.2 j j1 (by omega)))).symm
      · rw [ck_y hC, fl_z z, ck_o (pn (show (1 : Int) ≠ 0 by decide))]
        exact ((ck_y (fun q => hC ⟨q.1, q.2.1⟩)).trans (fl_z z)).symm
    · rw [ck_o z, ck_o z, ck_o z]
  rw [← e]
  exact hk
theorem rw_by {f : Nat → Int32} {n j W k r p : Int} (hb : bys f) (hn : n ≤ 800) (hj : 0 ≤ j) (h1 : tK f n j = 1) (hl : tE f n j - tS f n j = W) (h0 : 0 ≤ k) (hk : k < W) (ep : p = tS f n j + k) (hr : r = byF f n p) : r = (f (tS f n j + k).toNat).toInt := by
  have q := (tK_w hj h1).2.2 (tS f n j + k) (by omega) (by omega)
  have hs := tS_ge (f := f) (n := n) hj
  have h2 := by_eq hb (show 0 ≤ p by omega) hn hr
  rw [ep] at h2
  omega
theorem lt_at {f : Nat → Int32} {n W k b r : Int} {τ : Int × Int} {s pl sp : Int} {w : Int64} {le nu fa wr : Int} (hb : bys f) (hn : n ≤ 800) (hk : LkM f n (ck (¬ rwA f (tS f n τ.2) b) 1 (ck (¬ (tK f n τ.2 = 1 ∧ tE f n τ.2 - tS f n τ.2 = W)) 1 τ)) s pl sp w le nu fa wr) (h0 : (ck (¬ rwA f (tS f n τ.2) b) 1 (ck (¬ (tK f n τ.2 = 1 ∧ tE f n τ.2 - tS f n τ.2 = W)) 1 τ)).1 = 0) (k0 : 0 ≤ k) (kW : k < W) (hr : r = byF f n (pl + k)) : r = (f (tS f n τ.2 + k).toNat).toInt := by
  obtain ⟨c1, c2⟩ := ck_0 (by decide) h0
  obtain ⟨c3, c4⟩ := ck_0 (by decide) c2
  have hC := Classical.byContradiction c3
  have hp := hk.pl h0
  rw [ck_2, ck_2] at hp
  exact rw_by hb hn hp.2.2 hC.1 hC.2 k0 kW (by rw [hp.2.1]) hr
theorem lt_3 {f : Nat → Int32} {n W k r : Int} {c : Prop} {τ : Int × Int} {s pl sp : Int} {w : Int64} {le nu fa wr : Int} (hb : bys f) (hn : n ≤ 800) (hk : LkM f n (ck c 5 (ck (¬ rwK f n W τ.2) 1 τ)) s pl sp w le nu fa wr) (h0 : (ck c 5 (ck (¬ rwK f n W τ.2) 1 τ)).1 = 0) (k0 : 0 ≤ k) (kW : k < W) (hr : r = byF f n (pl + k)) : r = (f ((tS f n τ.2).toNat + k.toNat)).toInt ∧ rwL r := by
  obtain ⟨c1, c2⟩ := ck_0 (by decide) h0
  obtain ⟨c3, c4⟩ := ck_0 (by decide) c2
  have hC := Classical.byContradiction c3
  have hp := hk.pl h0
  rw [ck_2, ck_2] at hp
  have q := rw_by hb hn hp.2.2 hC.1 hC.2.1 k0 kW (by rw [hp.2.1]) hr
  have hs := tS_ge (f := f) (n := n) hp.2.2
  refine ⟨?_, ?_⟩
  · rw [q, show (tS f n τ.2 + k).toNat = (tS f n τ.2).toNat + k.toNat by omega]
  · rw [q]
    have hl := hC.2.1
    exact hC.2.2 _ (by omega) (by omega)
theorem cU_cu {f : Nat → Int32} {n p a W : Int} (ha : 0 ≤ a) (h : ∀ k : Int, 0 ≤ k → k < W → byF f n (p + k) = (f (a + k).toNat).toInt) : ∀ m : Nat, (m : Int) ≤ W → cU f n p m = cu f a.toNat m
  | 0, _ => rfl
  | m + 1, hm => by
    have ih := cU_cu ha h m (by omega)
    have h1 := h m (by omega) (by omega)
    rw [show (a + (m : Int)).toNat = a.toNat + m by omega] at h1
    show cU f n p m + (if byF f n (p + (m : Int)) = 117 then 1 else 0) = cu f a.toNat m + (if (f (a.toNat + m)).toInt = 117 then 1 else 0)
    rw [ih, h1]
theorem cu_U {f : Nat → Int32} {n W : Int} {τ : Int × Int} {s pl sp : Int} {w : Int64} {le nu fa wr : Int} (hb : bys f) (hn : n ≤ 800) (hW : 0 ≤ W) (hk : LkM f n (ck (¬ rwK f n W τ.2) 1 τ) s pl sp w le nu fa wr) (h0 : (ck (¬ rwK f n W τ.2) 1 τ).1 = 0) : cU f n pl W.toNat = cu f (tS f n τ.2).toNat W.toNat := by
  obtain ⟨c3, c4⟩ := ck_0 (by decide) h0
  have hC := Classical.byContradiction c3
  have hp := hk.pl h0
  rw [ck_2] at hp
  have hs := tS_ge (f := f) (n := n) hp.2.2
  exact cU_cu (by omega) (fun k k0 k1 => rw_by hb hn hp.2.2 hC.1 hC.2.1 k0 k1 (by rw [hp.2.1]) rfl) W.toNat (by omega)
theorem ro_v {f : Nat → Int32} {n W d rows uns : Int} {σ : Int × Int} {s pl sp : Int} {w : Int64} {le nu fa wr : Int} (hb : bys f) (hn : n ≤ 800) (hW : 0 ≤ W) (h0 : (fRw f n W d rows uns σ).1 = 0) (hk : LkM f n (ck (5 < uns + cu f (tS f n (rwB f n W d rows σ).2).toNat W.toNat) 5 (ck (¬ rwK f n W (rwB f n W d rows σ).2) 1 (rwB f n W d rows σ))) s pl sp w le nu fa wr) : rwB f n W d rows σ = go f n σ ∧ cU f n pl W.toNat = cu f (tS f n (go f n σ).2).toNat W.toNat ∧ (ck (5 < uns + cu f (tS f n (rwB f n W d rows σ).2).toNat W.toNat) 5 (ck (¬ rwK f n W (rwB f n W d rows σ).2) 1 (rwB f n W d rows σ))).1 = 0 := by
  have q := fRw_w h0
  have e := rwB_ok (f := f) (n := n) (σ := σ) q.1 q.2.1
  rw [fRw_eq] at h0
  have h1 := go_0 h0
  obtain ⟨c1, c2⟩ := ck_0 (by decide) h1
  rw [ck_n c1] at hk
  have h3 := cu_U hb hn hW hk c2
  rw [e] at h3
  exact ⟨e, h3, h1⟩
/-- sortOf of the reference -/
def soM (c r : Int) : Prop := (r = 0 ∧ (c = 111 ∨ c = 117)) ∨ (r = 1 ∧ c = 100) ∨ (r = 2 ∧ c = 103) ∨ (r = 3 ∧ c = 104) ∨ (r = -1 ∧ c ≠ 111 ∧ c ≠ 117 ∧ c ≠ 100 ∧ c ≠ 103 ∧ c ≠ 104)
theorem so_L {c r : Int} (h : rwL c) (hs : soM c r) : r = sL c := by
  unfold rwL at h
  unfold soM at hs
  unfold sL
  (repeat' split) <;> omega
theorem so_no {c r : Int} (hs : soM c r) (h : r = -1) : ¬ rwL c := by
  unfold rwL
  unfold soM at hs
  omega
theorem so_ye {c r : Int} (hs : soM c r) (h : r ≠ -1) : rwL c := by
  unfold rwL
  unfold soM at hs
  omega
theorem rwA_z {f : Nat → Int32} {a : Int} : rwA f a (a + 0) := fun k k1 k2 => by omega
/-- letters u ahead of a place, by the look and by the word -/
theorem cu_Uk {f : Nat → Int32} {n W k : Int} {c : Prop} {τ : Int × Int} {s pl sp : Int} {w : Int64} {le nu fa wr : Int} (hb : bys f) (hn : n ≤ 800) (hk : LkM f n (ck c 5 (ck (¬ rwK f n W τ.2) 1 τ)) s pl sp w le nu fa wr) (h0 : (ck c 5 (ck (¬ rwK f n W τ.2) 1 τ)).1 = 0) (k0 : 0 ≤ k) (kW : k ≤ W) : cU f n pl k.toNat = cu f (tS f n τ.2).toNat k.toNat := by
  obtain ⟨c1, c2⟩ := ck_0 (by decide) h0
  obtain ⟨c3, c4⟩ := ck_0 (by decide) c2
  have hC := Classical.byContradiction c3
  have hp := hk.pl h0
  rw [ck_2, ck_2] at hp
  have hs := tS_ge (f := f) (n := n) hp.2.2
  exact cU_cu (by omega) (fun j j0 j1 => rw_by hb hn hp.2.2 hC.1 hC.2.1 j0 j1 (by rw [hp.2.1]) rfl) k.toNat (by omega)
