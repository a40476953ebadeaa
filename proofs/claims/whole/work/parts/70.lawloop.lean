theorem loop_in {L i : Nat} (hL : L ≤ 2560) (hi : i ≤ L) (h : ¬ Int32.ofNat L - 5 < nI i) : i + 5 ≤ L := by
  have e : (Int32.ofNat L - 5).toInt = (L : Int) - 5 := pk_sub_toInt (a := L) (b := 5) (by omega) (by omega)
  rw [Int32.lt_iff_toInt_lt, e, nI_toInt (by omega)] at h
  omega
theorem nI_in5 {L i k : Nat} {x : Int32} (hL : L ≤ 2560) (hx : x = nI i) (h : i + k < L) {y : Int32} (hy : y = nI k) : vp_in (x + y) L := by
  rw [hx, hy, nI_add]
  exact vp_in_nI h (by omega)
set_option maxHeartbeats 4000000 in
set_option maxRecDepth 100000 in
theorem law_loop {p : Program} {l : Launch} {e : Env} {s : State} {m : MethodId} {below : List Frame} {meth : Method} {c : Code} {dC : Nat → ClassId} {dI : Nat → Nat → Nat} {b L : Nat} {xs : Nat → Int32} (hL : L ≤ 2560) (C0 : lw_At p s m meth c b L xs) (hl9 : l.stackTraces = false) (hZ : xZ (fun q : Nat => s.heap.size ≤ q) s s.heap) (hNc : va_Nc "java/lang/IllegalStateException" "java/lang/IllegalArgumentException" s) {xh0 xh1 xh2 xh3 mh0 mh1 mh2 mh3 oh : Nat} {xc1 xc2 xc3 mc1 mc2 mc3 oc : ClassId} (hK : va_K (dC, dI) vwCl [(xc1, .int), (xc2, .int), (xc3, .int), (mc1, .int), (mc2, .int), (mc3, .int), (oc, .long)] s) :
    ∀ (n j : Nat) (x4 : Int32), x4 = nI (5 * j) → 5 * j ≤ L → L + 1 ≤ 5 * j + 5 * n → ∀ (σ : xWS) (μ : mWS) (ov : Nat → Int64) (H : Heap) (locs : List Loc) (ls : Array Slot), Rel j σ μ → va_P (dC, dI) vwCl (lW xh0 xh1 xh2 xh3 mh0 mh1 mh2 mh3 oh xc1 xc2 xc3 mc1 mc2 mc3 oc σ μ ov) H → va_D (fun q : Nat => s.heap.size ≤ q) (lW xh0 xh1 xh2 xh3 mh0 mh1 mh2 mh3 oh xc1 xc2 xc3 mc1 mc2 mc3 oc σ μ ov) → va_S (fun q : Nat => s.heap.size ≤ q) s.heap H locs → lv_has ls 7 [(0, .ref b), (1, .ref xh0), (2, .ref mh0), (3, .ref oh), (4, .int x4)] → W p l e room_1 s m #[Value.ref b] below meth c H locs (9 + j) (388 + 6 * j) (lw_Z below #[Value.ref b] s) (F0 m 23 ls []) := by
  obtain ⟨hx, hb, hr, hml, hown, hts, hX, hbl, hlocks, hgv⟩ := id C0
  have hbA : ¬ (fun q : Nat => s.heap.size ≤ q) b := Nat.not_le.mpr hbl
  intro n
  induction n with
  | zero =>
    intro j x4 e4 h1 h2
    exact absurd h2 (by omega)
  | succ n ih =>
    intro j x4 e4 hj hn σ μ ov H locs ls hR hP hD hS hl
    refine lv_iload hx hb dL_law_23 (lv_at hl 4 rfl) ?_
    refine lv_aload_n hx hb dL_law_25 rfl (lv_at hl 0 rfl) ?_
    refine va_slen hx hb hX hbl hbA hS dL_law_26 ?_
    refine lv_iconst (v := 5) hx hb dL_law_27 (by decide) ?_
    refine lv_isub hx hb dL_law_28 ?_
    refine lv_icmp_gt (tgt := 628) hx hb dL_law_29 (by decide) (fun c_1 => ?_) (fun c_1 => ?_)
    · refine lv_iconst (v := 1) hx hb dL_law_628 (by decide) ?_
      refine va_forget (fun q hq => hS.2.2 q hq) ?_
      refine W.widen (k := 1049) (n := 8676) (by omega) (by omega) ?_
      exact lw_ret hx hb hr hlocks dL_law_629
    · have hlt : 5 * j + 5 ≤ L := loop_in hL hj (by rw [← e4]; exact c_1)
      have hi0 : vp_in x4 L := by rw [e4]; exact vp_in_nI (by omega) (by omega)
      have hi1 : vp_in (x4 + 1) L := nI_in5 (k := 1) hL e4 (by omega) rfl
      have hi2 : vp_in (x4 + 2) L := nI_in5 (k := 2) hL e4 (by omega) rfl
      have hi3 : vp_in (x4 + 3) L := nI_in5 (k := 3) hL e4 (by omega) rfl
      have hi4 : vp_in (x4 + 4) L := nI_in5 (k := 4) hL e4 (by omega) rfl
      have hc : 9 + j + 1 ≤ 1049 := by omega
      have hs : 388 + 6 * j + 6 ≤ 8676 := by omega
      have tail : ∀ (σ2 : xWS) (μ2 : mWS) (ov2 : Nat → Int64) (H2 : Heap) (locs2 : List Loc) (ls2 : Array Slot), Rel (j + 1) σ2 μ2 → va_P (dC, dI) vwCl (lW xh0 xh1 xh2 xh3 mh0 mh1 mh2 mh3 oh xc1 xc2 xc3 mc1 mc2 mc3 oc σ2 μ2 ov2) H2 → va_D (fun q : Nat => s.heap.size ≤ q) (lW xh0 xh1 xh2 xh3 mh0 mh1 mh2 mh3 oh xc1 xc2 xc3 mc1 mc2 mc3 oc σ2 μ2 ov2) → va_S (fun q : Nat => s.heap.size ≤ q) s.heap H2 locs2 → lv_has ls2 7 [(0, .ref b), (1, .ref xh0), (2, .ref mh0), (3, .ref oh), (4, .int x4)] → W p l e room_1 s m #[Value.ref b] below meth c H2 locs2 (9 + j + 1) (388 + 6 * j + 6) (lw_Z below #[Value.ref b] s) (F0 m 622 ls2 []) := by
        intro σ2 μ2 ov2 H2 locs2 ls2 hR hP hD hS hl
        refine lv_iinc (v := x4 + 5) (lv' := [(4, .int (x4 + 5)), (0, .ref b), (1, .ref xh0), (2, .ref mh0), (3, .ref oh)]) hx hb dL_law_622 hl (k := 4) rfl rfl (by decide) rfl (fun ls hl => ?_)
        refine lv_goto (tgt := 23) hx hb dL_law_625 (by decide) ?_
        exact ih (j + 1) (x4 + 5) (by rw [e4]; exact nI_add (5 * j) 5) (by omega) (by omega) σ2 μ2 ov2 H2 locs2 ls hR hP hD hS (lv_sub hl [1, 2, 3, 4, 0] rfl)
      refine lv_aload_n hx hb dL_law_32 rfl (lv_at hl 0 rfl) ?_
      refine lv_iload hx hb dL_law_33 (lv_at hl 4 rfl) ?_
      refine va_sld hx hb hX hbl hbA hS hi0 dL_law_35 ?_
      refine lv_bipush (v := 15) hx hb dL_law_36 (by decide) ?_
      refine lv_iand hx hb dL_law_38 ?_
      refine lv_topi (fun v ev => ?_)
      rcases Classical.em (v = 0) with c_2 | c_2
      · refine lv_tableIn (tgt := 88) (off := 49) hx hb dL_law_39 (by rw [c_2]; decide) (by rw [c_2]; decide) (by rw [c_2]; rfl) (by decide) ?_
        exact law_begin C0 hl9 hZ hNc hi1 hi2 hi3 hi4 hc hs (by omega) hR hK hP hD hS hl tail
      rcases Classical.em (v = 1) with c_3 | c_3
      · refine lv_tableIn (tgt := 176) (off := 137) hx hb dL_law_39 (by rw [c_3]; decide) (by rw [c_3]; decide) (by rw [c_3]; rfl) (by decide) ?_
        exact law_add C0 hl9 hZ hNc hi1 hi2 hi3 hc hs (by omega) hR hK hP hD hS hl tail
      rcases Classical.em (v = 2) with c_4 | c_4
      · refine lv_tableIn (tgt := 256) (off := 217) hx hb dL_law_39 (by rw [c_4]; decide) (by rw [c_4]; decide) (by rw [c_4]; rfl) (by decide) ?_
        exact law_where C0 hl9 hZ hNc hi1 hi2 hc hs (by omega) hR hK hP hD hS hl tail
      rcases Classical.em (v = 3) with c_5 | c_5
      · refine lv_tableIn (tgt := 324) (off := 285) hx hb dL_law_39 (by rw [c_5]; decide) (by rw [c_5]; decide) (by rw [c_5]; rfl) (by decide) ?_
        exact law_about C0 hl9 hZ hNc hi1 hi2 hc hs (by omega) hR hK hP hD hS hl tail
      rcases Classical.em (v = 4) with c_6 | c_6
      · refine lv_tableIn (tgt := 392) (off := 353) hx hb dL_law_39 (by rw [c_6]; decide) (by rw [c_6]; decide) (by rw [c_6]; rfl) (by decide) ?_
        exact law_signature C0 hl9 hZ hNc hi1 hc hs (by omega) hR hK hP hD hS hl tail
      rcases Classical.em (v = 5) with c_7 | c_7
      · refine lv_tableIn (tgt := 448) (off := 409) hx hb dL_law_39 (by rw [c_7]; decide) (by rw [c_7]; decide) (by rw [c_7]; rfl) (by decide) ?_
        exact law_call C0 hl9 hZ hNc hc hs (by omega) hR hK hP hD hS hl tail
      rcases Classical.em (v = 6) with c_8 | c_8
      · refine lv_tableIn (tgt := 461) (off := 422) hx hb dL_law_39 (by rw [c_8]; decide) (by rw [c_8]; decide) (by rw [c_8]; rfl) (by decide) ?_
        exact law_frame C0 hl9 hZ hNc hi1 hi2 hi3 hc hs (by omega) hR hK hP hD hS hl tail
      rcases Classical.em (v = 7) with c_9 | c_9
      · refine lv_tableIn (tgt := 541) (off := 502) hx hb dL_law_39 (by rw [c_9]; decide) (by rw [c_9]; decide) (by rw [c_9]; rfl) (by decide) ?_
        exact law_place C0 hl9 hZ hNc hi1 hi2 hc hs (by omega) hR hK hP hD hS hl tail
      rcases Classical.em (v = 8) with c_10 | c_10
      · refine lv_tableIn (tgt := 609) (off := 570) hx hb dL_law_39 (by rw [c_10]; decide) (by rw [c_10]; decide) (by rw [c_10]; rfl) (by decide) ?_
        exact law_clear C0 hl9 hZ hNc hc hs (by omega) hR hK hP hD hS hl tail
      refine lv_tableOut (tgt := 622) hx hb dL_law_39 (tab_out0_8 c_2 c_3 c_4 c_5 c_6 c_7 c_8 c_9 c_10) (by decide) ?_
      refine W.widen (k := 9 + j + 1) (n := 388 + 6 * j + 6) (by omega) (by omega) ?_
      exact tail σ μ ov H locs ls (rl_mono hR) hP hD hS hl
