variable {p : Program} {l : Launch} {e : Env} {s : State} {m : MethodId} {below : List Frame} {meth : Method} {c : Code} {b : Nat} {dC : Nat → ClassId} {dI : Nat → Nat → Nat} {cy : Nat → ClassId} {H : Heap} {locs : List Loc} {ls : Array Slot} {A : Nat → Prop} {Q : State → Prop} {cells slots N : Nat} {xs : Nat → Int32} {i : Int32}
set_option maxHeartbeats 8000000 in
set_option maxRecDepth 100000 in
theorem law_loop (hl9 : l.stackTraces = false) (C0 : lw_At p s m meth c b N xs) (hN : N ≤ 3072) (X : fx p s m c code 7 #[Value.ref b] RL dC dI cy hp (fun q : Nat => s.heap.size ≤ q)) (hA : ∀ q, s.heap.size ≤ q → (fun q : Nat => s.heap.size ≤ q) q) (hbA : ¬ (fun q : Nat => s.heap.size ≤ q) b) {x mm ob : Nat} : ∀ (n : Nat) (i : Int32) (K : CS) (M : MS) (ss : List va_W) (w : va_W) (of : Nat → Int64) (H : Heap) (locs : List Loc) (ls : Array Slot) (cells slots : Nat), 0 ≤ i.toInt → i.toInt ≤ 3078 → (N : Int) ≤ i.toInt + 6 * (n : Int) + 5 → cells + 20 * n ≤ 590000 → slots + 100 * n ≤ 7280000 → R9 K M → HI cy x K ss → NI cy mm M w → PDs dC dI (fun q : Nat => s.heap.size ≤ q) (ss ++ [w ++ [(ob, .inl (cy 2, 1, .inr (.inl of)))]]) H → va_S (fun q : Nat => s.heap.size ≤ q) s.heap H locs → lv_has ls 7 [(4, .int i), (3, .ref ob), (2, .ref mm), (1, .ref x), (0, .ref b)] → W p l e room_1 s m #[Value.ref b] below meth c H locs cells slots (lw_Z below #[Value.ref b] s) (F0 m 23 ls []) := by
  have C0' := C0
  obtain ⟨-, -, hr, -, -, -, hX, hbl, hlocks, -⟩ := C0'
  have hx := X.1
  have hb := X.2.1
  intro n
  induction n with
  | zero =>
    intro i K M ss w of H locs ls cells slots hi0 hi1 hn hc hs hR hI hM hQ hS hl
    refine lv_iload hx hb dL_law_23 (lv_at hl 0 rfl) ?_
    refine lv_aload_n hx hb dL_law_25 rfl (lv_at hl 4 rfl) ?_
    refine va_slen hx hb hX hbl hbA hS dL_law_26 ?_
    refine lv_topi (fun nv env => ?_)
    have tnv : nv.toInt = (N : Int) := by rw [env]; exact Int32.toInt_ofNat_of_lt (by omega)
    refine lv_bipush (v := 6) hx hb dL_law_27 (by decide) ?_
    refine lv_isub hx hb dL_law_29 ?_
    refine lv_topi (fun mv emv => ?_)
    have tmv : mv.toInt = (N : Int) - 6 := ti_sub (A := (N : Int)) (B := 6) emv tnv rfl (by omega) (by omega)
    refine lv_icmp_gt (tgt := 1930) hx hb dL_law_30 (by decide) (fun hg => ?_) (fun hg => ?_)
    · refine lv_iconst (v := 1) hx hb dL_law_1930 (by decide) ?_
      refine va_forget (fun q hq => hS.2.2 q hq) ?_
      refine W.widen (k := 601024) (n := 7293034) (by omega) (by omega) ?_
      exact lw_ret hx hb hr hlocks dL_law_1931
    · have hg : i.toInt ≤ mv.toInt := c_nlt hg
      exfalso
      omega
  | succ n ih =>
    intro i K M ss w of H locs ls cells slots hi0 hi1 hn hc hs hR hI hM hQ hS hl
    refine lv_iload hx hb dL_law_23 (lv_at hl 0 rfl) ?_
    refine lv_aload_n hx hb dL_law_25 rfl (lv_at hl 4 rfl) ?_
    refine va_slen hx hb hX hbl hbA hS dL_law_26 ?_
    refine lv_topi (fun nv env => ?_)
    have tnv : nv.toInt = (N : Int) := by rw [env]; exact Int32.toInt_ofNat_of_lt (by omega)
    refine lv_bipush (v := 6) hx hb dL_law_27 (by decide) ?_
    refine lv_isub hx hb dL_law_29 ?_
    refine lv_topi (fun mv emv => ?_)
    have tmv : mv.toInt = (N : Int) - 6 := ti_sub (A := (N : Int)) (B := 6) emv tnv rfl (by omega) (by omega)
    refine lv_icmp_gt (tgt := 1930) hx hb dL_law_30 (by decide) (fun hg => ?_) (fun hg => ?_)
    · refine lv_iconst (v := 1) hx hb dL_law_1930 (by decide) ?_
      refine va_forget (fun q hq => hS.2.2 q hq) ?_
      refine W.widen (k := 601024) (n := 7293034) (by omega) (by omega) ?_
      exact lw_ret hx hb hr hlocks dL_law_1931
    · have hg : i.toInt ≤ mv.toInt := c_nlt hg
      have hi6 : i.toInt + 6 ≤ (N : Int) := by omega
      have kk : ∀ (K : CS) (M : MS) (ss : List va_W) (w : va_W) (of : Nat → Int64) (H : Heap) (locs : List Loc) (ls : Array Slot) (cells1 slots1 : Nat), R9 K M → HI cy x K ss → NI cy mm M w → PDs dC dI (fun q : Nat => s.heap.size ≤ q) (ss ++ [w ++ [(ob, .inl (cy 2, 1, .inr (.inl of)))]]) H → va_S (fun q : Nat => s.heap.size ≤ q) s.heap H locs → lv_has ls 7 [(4, .int i), (3, .ref ob), (2, .ref mm), (1, .ref x), (0, .ref b)] → cells1 ≤ cells + 20 → slots1 ≤ slots + 100 → W p l e room_1 s m #[Value.ref b] below meth c H locs cells1 slots1 (lw_Z below #[Value.ref b] s) (F0 m 1924 ls []) := by
        intro K M ss w of H locs ls cells1 slots1 hR hI hM hQ hS hl h1 h2
        obtain ⟨i2, ei2⟩ : ∃ y : Int32, y = i + 6 := ⟨_, rfl⟩
        have ti2 : i2.toInt = i.toInt + 6 := ti_add (A := i.toInt) (B := 6) ei2 rfl rfl (by omega) (by omega)
        refine lv_iinc (v := i2) (lv' := [(4, .int i2), (3, .ref ob), (2, .ref mm), (1, .ref x), (0, .ref b)]) hx hb dL_law_1924 hl (k := 0) rfl (by rw [ei2]; rfl) (by decide) rfl (fun ls hl => ?_)
        refine lv_goto (tgt := 23) hx hb dL_law_1927 (by decide) ?_
        exact ih i2 K M ss w of H locs ls cells1 slots1 (by omega) (by omega) (by omega) (by omega) (by omega) hR hI hM hQ hS hl
      refine lv_aload_n hx hb dL_law_33 rfl (lv_at hl 4 rfl) ?_
      refine lv_iload hx hb dL_law_34 (lv_at hl 0 rfl) ?_
      refine va_sld hx hb hX hbl hbA hS (i := i) (vin (by omega) (by omega)) dL_law_36 ?_
      refine lv_bipush (v := 63) hx hb dL_law_37 (by decide) ?_
      refine lv_iand hx hb dL_law_39 ?_
      refine lv_topi (fun v ev => ?_)
      by_cases h0 : v = 0
      · refine lv_tableIn (off := 228) (tgt := 268) hx hb dL_law_40 (by rw [h0]; decide) (by rw [h0]; decide) (by rw [h0]; rfl) (by decide) ?_
        exact law_c0 hl9 C0 hN X hA hbA hR hi0 hi6 hI hM hQ hS hl (by omega) (by omega) kk
      by_cases h1 : v = 1
      · refine lv_tableIn (off := 301) (tgt := 341) hx hb dL_law_40 (by rw [h1]; decide) (by rw [h1]; decide) (by rw [h1]; rfl) (by decide) ?_
        exact law_c1 hl9 C0 hN X hA hbA hR hi0 hi6 hI hM hQ hS hl (by omega) (by omega) kk
      by_cases h2 : v = 2
      · refine lv_tableIn (off := 326) (tgt := 366) hx hb dL_law_40 (by rw [h2]; decide) (by rw [h2]; decide) (by rw [h2]; rfl) (by decide) ?_
        exact law_c2 hl9 C0 hN X hA hbA hR hi0 hi6 hI hM hQ hS hl (by omega) (by omega) kk
      by_cases h3 : v = 3
      · refine lv_tableIn (off := 339) (tgt := 379) hx hb dL_law_40 (by rw [h3]; decide) (by rw [h3]; decide) (by rw [h3]; rfl) (by decide) ?_
        exact law_c3 hl9 C0 hN X hA hbA hR hi0 hi6 hI hM hQ hS hl (by omega) (by omega) kk
      by_cases h4 : v = 4
      · refine lv_tableIn (off := 352) (tgt := 392) hx hb dL_law_40 (by rw [h4]; decide) (by rw [h4]; decide) (by rw [h4]; rfl) (by decide) ?_
        exact law_c4 hl9 C0 hN X hA hbA hR hi0 hi6 hI hM hQ hS hl (by omega) (by omega) kk
      by_cases h5 : v = 5
      · refine lv_tableIn (off := 389) (tgt := 429) hx hb dL_law_40 (by rw [h5]; decide) (by rw [h5]; decide) (by rw [h5]; rfl) (by decide) ?_
        exact law_c5 hl9 C0 hN X hA hbA hR hi0 hi6 hI hM hQ hS hl (by omega) (by omega) kk
      by_cases h6 : v = 6
      · refine lv_tableIn (off := 426) (tgt := 466) hx hb dL_law_40 (by rw [h6]; decide) (by rw [h6]; decide) (by rw [h6]; rfl) (by decide) ?_
        exact law_c6 hl9 C0 hN X hA hbA hR hi0 hi6 hI hM hQ hS hl (by omega) (by omega) kk
      by_cases h7 : v = 7
      · refine lv_tableIn (off := 475) (tgt := 515) hx hb dL_law_40 (by rw [h7]; decide) (by rw [h7]; decide) (by rw [h7]; rfl) (by decide) ?_
        exact law_c7 hl9 C0 hN X hA hbA hR hi0 hi6 hI hM hQ hS hl (by omega) (by omega) kk
      by_cases h8 : v = 8
      · refine lv_tableIn (off := 524) (tgt := 564) hx hb dL_law_40 (by rw [h8]; decide) (by rw [h8]; decide) (by rw [h8]; rfl) (by decide) ?_
        exact law_c8 hl9 C0 hN X hA hbA hR hi0 hi6 hI hM hQ hS hl (by omega) (by omega) kk
      by_cases h9 : v = 9
      · refine lv_tableIn (off := 549) (tgt := 589) hx hb dL_law_40 (by rw [h9]; decide) (by rw [h9]; decide) (by rw [h9]; rfl) (by decide) ?_
        exact law_c9 hl9 C0 hN X hA hbA hR hi0 hi6 hI hM hQ hS hl (by omega) (by omega) kk
      by_cases h10 : v = 10
      · refine lv_tableIn (off := 574) (tgt := 614) hx hb dL_law_40 (by rw [h10]; decide) (by rw [h10]; decide) (by rw [h10]; rfl) (by decide) ?_
        exact law_c10 hl9 C0 hN X hA hbA hR hi0 hi6 hI hM hQ hS hl (by omega) (by omega) kk
      by_cases h11 : v = 11
      · refine lv_tableIn (off := 599) (tgt := 639) hx hb dL_law_40 (by rw [h11]; decide) (by rw [h11]; decide) (by rw [h11]; rfl) (by decide) ?_
        exact law_c11 hl9 C0 hN X hA hbA hR hi0 hi6 hI hM hQ hS hl (by omega) (by omega) kk
      by_cases h12 : v = 12
      · refine lv_tableIn (off := 636) (tgt := 676) hx hb dL_law_40 (by rw [h12]; decide) (by rw [h12]; decide) (by rw [h12]; rfl) (by decide) ?_
        exact law_c12 hl9 C0 hN X hA hbA hR hi0 hi6 hI hM hQ hS hl (by omega) (by omega) kk
      by_cases h13 : v = 13
      · refine lv_tableIn (off := 661) (tgt := 701) hx hb dL_law_40 (by rw [h13]; decide) (by rw [h13]; decide) (by rw [h13]; rfl) (by decide) ?_
        exact law_c13 hl9 C0 hN X hA hbA hR hi0 hi6 hI hM hQ hS hl (by omega) (by omega) kk
      by_cases h14 : v = 14
      · refine lv_tableIn (off := 686) (tgt := 726) hx hb dL_law_40 (by rw [h14]; decide) (by rw [h14]; decide) (by rw [h14]; rfl) (by decide) ?_
        exact law_c14 hl9 C0 hN X hA hbA hR hi0 hi6 hI hM hQ hS hl (by omega) (by omega) kk
      by_cases h15 : v = 15
      · refine lv_tableIn (off := 723) (tgt := 763) hx hb dL_law_40 (by rw [h15]; decide) (by rw [h15]; decide) (by rw [h15]; rfl) (by decide) ?_
        exact law_c15 hl9 C0 hN X hA hbA hR hi0 hi6 hI hM hQ hS hl (by omega) (by omega) kk
      by_cases h16 : v = 16
      · refine lv_tableIn (off := 748) (tgt := 788) hx hb dL_law_40 (by rw [h16]; decide) (by rw [h16]; decide) (by rw [h16]; rfl) (by decide) ?_
        exact law_c16 hl9 C0 hN X hA hbA hR hi0 hi6 hI hM hQ hS hl (by omega) (by omega) kk
      by_cases h17 : v = 17
      · refine lv_tableIn (off := 785) (tgt := 825) hx hb dL_law_40 (by rw [h17]; decide) (by rw [h17]; decide) (by rw [h17]; rfl) (by decide) ?_
        exact law_c17 hl9 C0 hN X hA hbA hR hi0 hi6 hI hM hQ hS hl (by omega) (by omega) kk
      by_cases h18 : v = 18
      · refine lv_tableIn (off := 822) (tgt := 862) hx hb dL_law_40 (by rw [h18]; decide) (by rw [h18]; decide) (by rw [h18]; rfl) (by decide) ?_
        exact law_c18 hl9 C0 hN X hA hbA hR hi0 hi6 hI hM hQ hS hl (by omega) (by omega) kk
      by_cases h19 : v = 19
      · refine lv_tableIn (off := 835) (tgt := 875) hx hb dL_law_40 (by rw [h19]; decide) (by rw [h19]; decide) (by rw [h19]; rfl) (by decide) ?_
        exact law_c19 hl9 C0 hN X hA hbA hR hi0 hi6 hI hM hQ hS hl (by omega) (by omega) kk
      by_cases h20 : v = 20
      · refine lv_tableIn (off := 860) (tgt := 900) hx hb dL_law_40 (by rw [h20]; decide) (by rw [h20]; decide) (by rw [h20]; rfl) (by decide) ?_
        exact law_c20 hl9 C0 hN X hA hbA hR hi0 hi6 hI hM hQ hS hl (by omega) (by omega) kk
      by_cases h21 : v = 21
      · refine lv_tableIn (off := 873) (tgt := 913) hx hb dL_law_40 (by rw [h21]; decide) (by rw [h21]; decide) (by rw [h21]; rfl) (by decide) ?_
        exact law_c21 hl9 C0 hN X hA hbA hR hi0 hi6 hI hM hQ hS hl (by omega) (by omega) kk
      by_cases h22 : v = 22
      · refine lv_tableIn (off := 886) (tgt := 926) hx hb dL_law_40 (by rw [h22]; decide) (by rw [h22]; decide) (by rw [h22]; rfl) (by decide) ?_
        exact law_c22 hl9 C0 hN X hA hbA hR hi0 hi6 hI hM hQ hS hl (by omega) (by omega) kk
      by_cases h23 : v = 23
      · refine lv_tableIn (off := 899) (tgt := 939) hx hb dL_law_40 (by rw [h23]; decide) (by rw [h23]; decide) (by rw [h23]; rfl) (by decide) ?_
        exact law_c23 hl9 C0 hN X hA hbA hR hi0 hi6 hI hM hQ hS hl (by omega) (by omega) kk
      by_cases h24 : v = 24
      · refine lv_tableIn (off := 936) (tgt := 976) hx hb dL_law_40 (by rw [h24]; decide) (by rw [h24]; decide) (by rw [h24]; rfl) (by decide) ?_
        exact law_c24 hl9 C0 hN X hA hbA hR hi0 hi6 hI hM hQ hS hl (by omega) (by omega) kk
      by_cases h25 : v = 25
      · refine lv_tableIn (off := 973) (tgt := 1013) hx hb dL_law_40 (by rw [h25]; decide) (by rw [h25]; decide) (by rw [h25]; rfl) (by decide) ?_
        exact law_c25 hl9 C0 hN X hA hbA hR hi0 hi6 hI hM hQ hS hl (by omega) (by omega) kk
      by_cases h26 : v = 26
      · refine lv_tableIn (off := 998) (tgt := 1038) hx hb dL_law_40 (by rw [h26]; decide) (by rw [h26]; decide) (by rw [h26]; rfl) (by decide) ?_
        exact law_c26 hl9 C0 hN X hA hbA hR hi0 hi6 hI hM hQ hS hl (by omega) (by omega) kk
      by_cases h27 : v = 27
      · refine lv_tableIn (off := 1011) (tgt := 1051) hx hb dL_law_40 (by rw [h27]; decide) (by rw [h27]; decide) (by rw [h27]; rfl) (by decide) ?_
        exact law_c27 hl9 C0 hN X hA hbA hR hi0 hi6 hI hM hQ hS hl (by omega) (by omega) kk
      by_cases h28 : v = 28
      · refine lv_tableIn (off := 1036) (tgt := 1076) hx hb dL_law_40 (by rw [h28]; decide) (by rw [h28]; decide) (by rw [h28]; rfl) (by decide) ?_
        exact law_c28 hl9 C0 hN X hA hbA hR hi0 hi6 hI hM hQ hS hl (by omega) (by omega) kk
      by_cases h29 : v = 29
      · refine lv_tableIn (off := 1089) (tgt := 1129) hx hb dL_law_40 (by rw [h29]; decide) (by rw [h29]; decide) (by rw [h29]; rfl) (by decide) ?_
        exact law_c29 hl9 C0 hN X hA hbA hR hi0 hi6 hI hM hQ hS hl (by omega) (by omega) kk
      by_cases h30 : v = 30
      · refine lv_tableIn (off := 1102) (tgt := 1142) hx hb dL_law_40 (by rw [h30]; decide) (by rw [h30]; decide) (by rw [h30]; rfl) (by decide) ?_
        exact law_c30 hl9 C0 hN X hA hbA hR hi0 hi6 hI hM hQ hS hl (by omega) (by omega) kk
      by_cases h31 : v = 31
      · refine lv_tableIn (off := 1115) (tgt := 1155) hx hb dL_law_40 (by rw [h31]; decide) (by rw [h31]; decide) (by rw [h31]; rfl) (by decide) ?_
        exact law_c31 hl9 C0 hN X hA hbA hR hi0 hi6 hI hM hQ hS hl (by omega) (by omega) kk
      by_cases h32 : v = 32
      · refine lv_tableIn (off := 1128) (tgt := 1168) hx hb dL_law_40 (by rw [h32]; decide) (by rw [h32]; decide) (by rw [h32]; rfl) (by decide) ?_
        exact law_c32 hl9 C0 hN X hA hbA hR hi0 hi6 hI hM hQ hS hl (by omega) (by omega) kk
      by_cases h33 : v = 33
      · refine lv_tableIn (off := 1141) (tgt := 1181) hx hb dL_law_40 (by rw [h33]; decide) (by rw [h33]; decide) (by rw [h33]; rfl) (by decide) ?_
        exact law_c33 hl9 C0 hN X hA hbA hR hi0 hi6 hI hM hQ hS hl (by omega) (by omega) kk
      by_cases h34 : v = 34
      · refine lv_tableIn (off := 1206) (tgt := 1246) hx hb dL_law_40 (by rw [h34]; decide) (by rw [h34]; decide) (by rw [h34]; rfl) (by decide) ?_
        exact law_c34 hl9 C0 hN X hA hbA hR hi0 hi6 hI hM hQ hS hl (by omega) (by omega) kk
      by_cases h35 : v = 35
      · refine lv_tableIn (off := 1315) (tgt := 1355) hx hb dL_law_40 (by rw [h35]; decide) (by rw [h35]; decide) (by rw [h35]; rfl) (by decide) ?_
        exact law_c35 hl9 C0 hN X hA hbA hR hi0 hi6 hI hM hQ hS hl (by omega) (by omega) kk
      by_cases h36 : v = 36
      · refine lv_tableIn (off := 1340) (tgt := 1380) hx hb dL_law_40 (by rw [h36]; decide) (by rw [h36]; decide) (by rw [h36]; rfl) (by decide) ?_
        exact law_c36 hl9 C0 hN X hA hbA hR hi0 hi6 hI hM hQ hS hl (by omega) (by omega) kk
      by_cases h37 : v = 37
      · refine lv_tableIn (off := 1365) (tgt := 1405) hx hb dL_law_40 (by rw [h37]; decide) (by rw [h37]; decide) (by rw [h37]; rfl) (by decide) ?_
        exact law_c37 hl9 C0 hN X hA hbA hR hi0 hi6 hI hM hQ hS hl (by omega) (by omega) kk
      by_cases h38 : v = 38
      · refine lv_tableIn (off := 1430) (tgt := 1470) hx hb dL_law_40 (by rw [h38]; decide) (by rw [h38]; decide) (by rw [h38]; rfl) (by decide) ?_
        exact law_c38 hl9 C0 hN X hA hbA hR hi0 hi6 hI hM hQ hS hl (by omega) (by omega) kk
      by_cases h39 : v = 39
      · refine lv_tableIn (off := 1483) (tgt := 1523) hx hb dL_law_40 (by rw [h39]; decide) (by rw [h39]; decide) (by rw [h39]; rfl) (by decide) ?_
        exact law_c39 hl9 C0 hN X hA hbA hR hi0 hi6 hI hM hQ hS hl (by omega) (by omega) kk
      by_cases h40 : v = 40
      · refine lv_tableIn (off := 1532) (tgt := 1572) hx hb dL_law_40 (by rw [h40]; decide) (by rw [h40]; decide) (by rw [h40]; rfl) (by decide) ?_
        exact law_c40 hl9 C0 hN X hA hbA hR hi0 hi6 hI hM hQ hS hl (by omega) (by omega) kk
      by_cases h41 : v = 41
      · refine lv_tableIn (off := 1581) (tgt := 1621) hx hb dL_law_40 (by rw [h41]; decide) (by rw [h41]; decide) (by rw [h41]; rfl) (by decide) ?_
        exact law_c41 hl9 C0 hN X hA hbA hR hi0 hi6 hI hM hQ hS hl (by omega) (by omega) kk
      by_cases h42 : v = 42
      · refine lv_tableIn (off := 1630) (tgt := 1670) hx hb dL_law_40 (by rw [h42]; decide) (by rw [h42]; decide) (by rw [h42]; rfl) (by decide) ?_
        exact law_c42 hl9 C0 hN X hA hbA hR hi0 hi6 hI hM hQ hS hl (by omega) (by omega) kk
      by_cases h43 : v = 43
      · refine lv_tableIn (off := 1667) (tgt := 1707) hx hb dL_law_40 (by rw [h43]; decide) (by rw [h43]; decide) (by rw [h43]; rfl) (by decide) ?_
        exact law_c43 hl9 C0 hN X hA hbA hR hi0 hi6 hI hM hQ hS hl (by omega) (by omega) kk
      by_cases h44 : v = 44
      · refine lv_tableIn (off := 1692) (tgt := 1732) hx hb dL_law_40 (by rw [h44]; decide) (by rw [h44]; decide) (by rw [h44]; rfl) (by decide) ?_
        exact law_c44 hl9 C0 hN X hA hbA hR hi0 hi6 hI hM hQ hS hl (by omega) (by omega) kk
      by_cases h45 : v = 45
      · refine lv_tableIn (off := 1717) (tgt := 1757) hx hb dL_law_40 (by rw [h45]; decide) (by rw [h45]; decide) (by rw [h45]; rfl) (by decide) ?_
        exact law_c45 hl9 C0 hN X hA hbA hR hi0 hi6 hI hM hQ hS hl (by omega) (by omega) kk
      by_cases h46 : v = 46
      · refine lv_tableIn (off := 1742) (tgt := 1782) hx hb dL_law_40 (by rw [h46]; decide) (by rw [h46]; decide) (by rw [h46]; rfl) (by decide) ?_
        exact law_c46 hl9 C0 hN X hA hbA hR hi0 hi6 hI hM hQ hS hl (by omega) (by omega) kk
      by_cases h47 : v = 47
      · refine lv_tableIn (off := 1767) (tgt := 1807) hx hb dL_law_40 (by rw [h47]; decide) (by rw [h47]; decide) (by rw [h47]; rfl) (by decide) ?_
        exact law_c47 hl9 C0 hN X hA hbA hR hi0 hi6 hI hM hQ hS hl (by omega) (by omega) kk
      by_cases h48 : v = 48
      · refine lv_tableIn (off := 1780) (tgt := 1820) hx hb dL_law_40 (by rw [h48]; decide) (by rw [h48]; decide) (by rw [h48]; rfl) (by decide) ?_
        exact law_c48 hl9 C0 hN X hA hbA hR hi0 hi6 hI hM hQ hS hl (by omega) (by omega) kk
      by_cases h49 : v = 49
      · refine lv_tableIn (off := 1793) (tgt := 1833) hx hb dL_law_40 (by rw [h49]; decide) (by rw [h49]; decide) (by rw [h49]; rfl) (by decide) ?_
        exact law_c49 hl9 C0 hN X hA hbA hR hi0 hi6 hI hM hQ hS hl (by omega) (by omega) kk
      by_cases h50 : v = 50
      · refine lv_tableIn (off := 1818) (tgt := 1858) hx hb dL_law_40 (by rw [h50]; decide) (by rw [h50]; decide) (by rw [h50]; rfl) (by decide) ?_
        exact law_c50 hl9 C0 hN X hA hbA hR hi0 hi6 hI hM hQ hS hl (by omega) (by omega) kk
      by_cases h51 : v = 51
      · refine lv_tableIn (off := 1846) (tgt := 1886) hx hb dL_law_40 (by rw [h51]; decide) (by rw [h51]; decide) (by rw [h51]; rfl) (by decide) ?_
        exact law_c51 hl9 C0 hN X hA hbA hR hi0 hi6 hI hM hQ hS hl (by omega) (by omega) kk
      by_cases h52 : v = 52
      · refine lv_tableIn (off := 1871) (tgt := 1911) hx hb dL_law_40 (by rw [h52]; decide) (by rw [h52]; decide) (by rw [h52]; rfl) (by decide) ?_
        exact law_c52 hl9 C0 hN X hA hbA hR hi0 hi6 hI hM hQ hS hl (by omega) (by omega) kk
      have h0 : v.toInt ≠ 0 := c_ne h0
      have h1 : v.toInt ≠ 1 := c_ne h1
      have h2 : v.toInt ≠ 2 := c_ne h2
      have h3 : v.toInt ≠ 3 := c_ne h3
      have h4 : v.toInt ≠ 4 := c_ne h4
      have h5 : v.toInt ≠ 5 := c_ne h5
      have h6 : v.toInt ≠ 6 := c_ne h6
      have h7 : v.toInt ≠ 7 := c_ne h7
      have h8 : v.toInt ≠ 8 := c_ne h8
      have h9 : v.toInt ≠ 9 := c_ne h9
      have h10 : v.toInt ≠ 10 := c_ne h10
      have h11 : v.toInt ≠ 11 := c_ne h11
      have h12 : v.toInt ≠ 12 := c_ne h12
      have h13 : v.toInt ≠ 13 := c_ne h13
      have h14 : v.toInt ≠ 14 := c_ne h14
      have h15 : v.toInt ≠ 15 := c_ne h15
      have h16 : v.toInt ≠ 16 := c_ne h16
      have h17 : v.toInt ≠ 17 := c_ne h17
      have h18 : v.toInt ≠ 18 := c_ne h18
      have h19 : v.toInt ≠ 19 := c_ne h19
      have h20 : v.toInt ≠ 20 := c_ne h20
      have h21 : v.toInt ≠ 21 := c_ne h21
      have h22 : v.toInt ≠ 22 := c_ne h22
      have h23 : v.toInt ≠ 23 := c_ne h23
      have h24 : v.toInt ≠ 24 := c_ne h24
      have h25 : v.toInt ≠ 25 := c_ne h25
      have h26 : v.toInt ≠ 26 := c_ne h26
      have h27 : v.toInt ≠ 27 := c_ne h27
      have h28 : v.toInt ≠ 28 := c_ne h28
      have h29 : v.toInt ≠ 29 := c_ne h29
      have h30 : v.toInt ≠ 30 := c_ne h30
      have h31 : v.toInt ≠ 31 := c_ne h31
      have h32 : v.toInt ≠ 32 := c_ne h32
      have h33 : v.toInt ≠ 33 := c_ne h33
      have h34 : v.toInt ≠ 34 := c_ne h34
      have h35 : v.toInt ≠ 35 := c_ne h35
      have h36 : v.toInt ≠ 36 := c_ne h36
      have h37 : v.toInt ≠ 37 := c_ne h37
      have h38 : v.toInt ≠ 38 := c_ne h38
      have h39 : v.toInt ≠ 39 := c_ne h39
      have h40 : v.toInt ≠ 40 := c_ne h40
      have h41 : v.toInt ≠ 41 := c_ne h41
      have h42 : v.toInt ≠ 42 := c_ne h42
      have h43 : v.toInt ≠ 43 := c_ne h43
      have h44 : v.toInt ≠ 44 := c_ne h44
      have h45 : v.toInt ≠ 45 := c_ne h45
      have h46 : v.toInt ≠ 46 := c_ne h46
      have h47 : v.toInt ≠ 47 := c_ne h47
      have h48 : v.toInt ≠ 48 := c_ne h48
      have h49 : v.toInt ≠ 49 := c_ne h49
      have h50 : v.toInt ≠ 50 := c_ne h50
      have h51 : v.toInt ≠ 51 := c_ne h51
      have h52 : v.toInt ≠ 52 := c_ne h52
      refine lv_tableOut (tgt := 1924) hx hb dL_law_40 (by omega) (by decide) ?_
      exact kk K M ss w of H locs ls cells slots hR hI hM hQ hS hl (by omega) (by omega)
