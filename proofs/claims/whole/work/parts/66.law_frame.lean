set_option maxHeartbeats 4000000 in
set_option maxRecDepth 100000 in
theorem law_frame {p : Program} {l : Launch} {e : Env} {s : State} {m : MethodId} {below : List Frame} {meth : Method} {c : Code} {dC : Nat → ClassId} {dI : Nat → Nat → Nat} {b L : Nat} {xs : Nat → Int32} (C0 : lw_At p s m meth c b L xs) (hl9 : l.stackTraces = false) (hZ : xZ (fun q : Nat => s.heap.size ≤ q) s s.heap) (hNc : va_Nc "java/lang/IllegalStateException" "java/lang/IllegalArgumentException" s) {xh0 xh1 xh2 xh3 mh0 mh1 mh2 mh3 oh : Nat} {xc1 xc2 xc3 mc1 mc2 mc3 oc : ClassId} {H : Heap} {locs : List Loc} {cells slots : Nat} {x4 : Int32} (hi1 : vp_in (x4 + 1) L) (hi2 : vp_in (x4 + 2) L) (hi3 : vp_in (x4 + 3) L) (hc : cells + 1 ≤ 1049) (hs : slots + 6 ≤ 8676) {σ : xWS} {μ : mWS} {ov : Nat → Int64} {t : Nat} (ht9 : t ≤ 512) (hR : Rel t σ μ) (hK : va_K (dC, dI) vwCl [(xc1, .int), (xc2, .int), (xc3, .int), (mc1, .int), (mc2, .int), (mc3, .int), (oc, .long)] s) (hP : va_P (dC, dI) vwCl (lW xh0 xh1 xh2 xh3 mh0 mh1 mh2 mh3 oh xc1 xc2 xc3 mc1 mc2 mc3 oc σ μ ov) H) (hD : va_D (fun q : Nat => s.heap.size ≤ q) (lW xh0 xh1 xh2 xh3 mh0 mh1 mh2 mh3 oh xc1 xc2 xc3 mc1 mc2 mc3 oc σ μ ov)) (hS : va_S (fun q : Nat => s.heap.size ≤ q) s.heap H locs) {ls : Array Slot} (hl : lv_has ls 7 [(0, .ref b), (1, .ref xh0), (2, .ref mh0), (3, .ref oh), (4, .int x4)]) (kk : ∀ (σ2 : xWS) (μ2 : mWS) (ov2 : Nat → Int64) (H2 : Heap) (locs2 : List Loc) (ls2 : Array Slot), Rel (t + 1) σ2 μ2 → va_P (dC, dI) vwCl (lW xh0 xh1 xh2 xh3 mh0 mh1 mh2 mh3 oh xc1 xc2 xc3 mc1 mc2 mc3 oc σ2 μ2 ov2) H2 → va_D (fun q : Nat => s.heap.size ≤ q) (lW xh0 xh1 xh2 xh3 mh0 mh1 mh2 mh3 oh xc1 xc2 xc3 mc1 mc2 mc3 oc σ2 μ2 ov2) → va_S (fun q : Nat => s.heap.size ≤ q) s.heap H2 locs2 → lv_has ls2 7 [(0, .ref b), (1, .ref xh0), (2, .ref mh0), (3, .ref oh), (4, .int x4)] → W p l e room_1 s m #[Value.ref b] below meth c H2 locs2 (cells + 1) (slots + 6) (lw_Z below #[Value.ref b] s) (F0 m 622 ls2 [])) : W p l e room_1 s m #[Value.ref b] below meth c H locs cells slots (lw_Z below #[Value.ref b] s) (F0 m 461 ls []) := by
  obtain ⟨hx, hb, hr, hml, hown, hts, hX, hbl, hlocks, hgv⟩ := C0
  have htG := fun (w : Cond) (h : w ∈ wG) => hts w (List.mem_filter.mp h).1
  have hown : s.vm.findClass RL = some m.cls := hown
  have hA : ∀ q : Nat, s.heap.size ≤ q → (fun q : Nat => s.heap.size ≤ q) q := fun _ h => h
  have hbA : ¬ (fun q : Nat => s.heap.size ≤ q) b := Nat.not_le.mpr hbl
  refine lv_aload_n hx hb dL_law_461 rfl (lv_at hl 1 rfl) ?_
  refine lv_aload_n hx hb dL_law_462 rfl (lv_at hl 0 rfl) ?_
  refine lv_iload hx hb dL_law_463 (lv_at hl 4 rfl) ?_
  refine lv_iconst (v := 1) hx hb dL_law_465 (by decide) ?_
  refine lv_iadd hx hb dL_law_466 ?_
  refine va_sld hx hb hX hbl hbA hS hi1 dL_law_467 ?_
  refine lv_aload_n hx hb dL_law_468 rfl (lv_at hl 0 rfl) ?_
  refine lv_iload hx hb dL_law_469 (lv_at hl 4 rfl) ?_
  refine lv_iconst (v := 2) hx hb dL_law_471 (by decide) ?_
  refine lv_iadd hx hb dL_law_472 ?_
  refine va_sld hx hb hX hbl hbA hS hi2 dL_law_473 ?_
  refine lv_aload_n hx hb dL_law_474 rfl (lv_at hl 0 rfl) ?_
  refine lv_iload hx hb dL_law_475 (lv_at hl 4 rfl) ?_
  refine lv_iconst (v := 3) hx hb dL_law_477 (by decide) ?_
  refine lv_iadd hx hb dL_law_478 ?_
  refine va_sld hx hb hX hbl hbA hS hi3 dL_law_479 ?_
  refine lv_aload_n hx hb dL_law_480 rfl (lv_at hl 3 rfl) ?_
  have hPc := hP.sub (ws' := (loW xh0 xh1 xh2 xh3 xc1 xc2 xc3 oh oc σ.1 σ.2.1 σ.2.2.1 σ.2.2.2.1 σ.2.2.2.2.1 σ.2.2.2.2.2.1 σ.2.2.2.2.2.2.1 σ.2.2.2.2.2.2.2.1 σ.2.2.2.2.2.2.2.2.1 σ.2.2.2.2.2.2.2.2.2.1 σ.2.2.2.2.2.2.2.2.2.2.1 σ.2.2.2.2.2.2.2.2.2.2.2.1 σ.2.2.2.2.2.2.2.2.2.2.2.2.1 σ.2.2.2.2.2.2.2.2.2.2.2.2.2 ov)) [0, 1, 2, 3, 8] rfl
  have hDc := hD.sub (ws' := (loW xh0 xh1 xh2 xh3 xc1 xc2 xc3 oh oc σ.1 σ.2.1 σ.2.2.1 σ.2.2.2.1 σ.2.2.2.2.1 σ.2.2.2.2.2.1 σ.2.2.2.2.2.2.1 σ.2.2.2.2.2.2.2.1 σ.2.2.2.2.2.2.2.2.1 σ.2.2.2.2.2.2.2.2.2.1 σ.2.2.2.2.2.2.2.2.2.2.1 σ.2.2.2.2.2.2.2.2.2.2.2.1 σ.2.2.2.2.2.2.2.2.2.2.2.2.1 σ.2.2.2.2.2.2.2.2.2.2.2.2.2 ov)) [0, 1, 2, 3, 8] (by decide) rfl
  have hKc := hK.sub (tys' := [(xc1, .int), (xc2, .int), (xc3, .int), (oc, .long)]) [0, 1, 2, 6] rfl
  have hFc := va_free (wc := (loW xh0 xh1 xh2 xh3 xc1 xc2 xc3 oh oc σ.1 σ.2.1 σ.2.2.1 σ.2.2.2.1 σ.2.2.2.2.1 σ.2.2.2.2.2.1 σ.2.2.2.2.2.2.1 σ.2.2.2.2.2.2.2.1 σ.2.2.2.2.2.2.2.2.1 σ.2.2.2.2.2.2.2.2.2.1 σ.2.2.2.2.2.2.2.2.2.2.1 σ.2.2.2.2.2.2.2.2.2.2.2.1 σ.2.2.2.2.2.2.2.2.2.2.2.2.1 σ.2.2.2.2.2.2.2.2.2.2.2.2.2 ov)) hD hS hA [0, 1, 2, 3, 8] rfl
  refine va_calli (vx_runSW (As := [.ref xh0, .int (xs (x4 + 1).toNatClampNeg), .int (xs (x4 + 2).toNatClampNeg), .int (xs (x4 + 3).toNatClampNeg), .ref oh]) (rest := []) ⟨hx, hb, hml, hown, htG⟩ (mL_frame l hl9 dC dI xh0 xh1 xh2 xh3 oh H.size xc1 xc2 xc3 oc σ.1 σ.2.1 σ.2.2.1 σ.2.2.2.1 σ.2.2.2.2.1 σ.2.2.2.2.2.1 σ.2.2.2.2.2.2.1 σ.2.2.2.2.2.2.2.1 σ.2.2.2.2.2.2.2.2.1 σ.2.2.2.2.2.2.2.2.2.1 σ.2.2.2.2.2.2.2.2.2.2.1 σ.2.2.2.2.2.2.2.2.2.2.2.1 σ.2.2.2.2.2.2.2.2.2.2.2.2.1 σ.2.2.2.2.2.2.2.2.2.2.2.2.2 ov (xs (x4 + 1).toNatClampNeg) (xs (x4 + 2).toNatClampNeg) (xs (x4 + 3).toNatClampNeg)) (vx_cwSW 5 htG (wG_S wd_295 wd_296 wd_21 wd_297) rfl rfl rfl (by decide +kernel) ⟨Nat.le_of_ble_eq_true rfl, Nat.le_of_ble_eq_true rfl⟩) ⟨fun a U g mk q => by obtain ⟨q0, q1, qP, qK, qD, qZ⟩ := q; exact ⟨q0, q1, qP, va_K.moved (u := U) (U := U.calling g mk a) (Vm.Alike.refl U.vm) qK, qD, qZ.blind⟩, fun U hU hW => ⟨rfl, by rw [hU], by rw [hU]; exact hPc, va_K.moved hW.alike hKc, hDc.weaken (fun _ _ _ _ => trivial), xZ.pass hZ hS hW hU hFc⟩⟩ rfl rfl hl.1 rfl (lv_room (Nat.le_of_ble_eq_true rfl)) dL_law_481 ⟨(by show _ ≤ 1049; omega), (by show _ ≤ 8676; omega)⟩) hS (fun q _ h => hFc q h) hFc (fun r_1 u t H1 locs ht hvm hw hB hz1 hk1 hS => ?_)
  obtain ⟨hP1, hK1, hD1⟩ := hB
  rw [ht] at hP1
  obtain ⟨u1, u2⟩ := u
  have hk : r_1 = (XF_frame σ (xs (x4 + 1).toNatClampNeg) (xs (x4 + 2).toNatClampNeg) (xs (x4 + 3).toNatClampNeg)).1 := congrArg (fun z => z.1) hw
  have hu1 : u1 = (XF_frame σ (xs (x4 + 1).toNatClampNeg) (xs (x4 + 2).toNatClampNeg) (xs (x4 + 3).toNatClampNeg)).2.2 := congrArg (fun z => z.2.1) hw
  have hu2 : u2 = (if (XF_frame σ (xs (x4 + 1).toNatClampNeg) (xs (x4 + 2).toNatClampNeg) (xs (x4 + 3).toNatClampNeg)).1 = 0 then vp_updL ov (0 : Int32).toNatClampNeg (XF_frame σ (xs (x4 + 1).toNatClampNeg) (xs (x4 + 2).toNatClampNeg) (xs (x4 + 3).toNatClampNeg)).2.1.toInt64 else ov) := congrArg (fun z => z.2.2) hw
  obtain ⟨hP, hD⟩ := va_join (wr := [(mh0, .inr (1, [.int μ.2.2.2.1, .int μ.2.2.2.2.1, .int μ.2.2.2.2.2.1, .int μ.2.2.2.2.2.2.1, .int μ.2.2.2.2.2.2.2.1, .int μ.2.2.2.2.2.2.2.2.1, .int μ.2.2.2.2.2.2.2.2.2.1, .int μ.2.2.2.2.2.2.2.2.2.2.1, .int μ.2.2.2.2.2.2.2.2.2.2.2.1, .int μ.2.2.2.2.2.2.2.2.2.2.2.2, .ref mh1, .ref mh2, .ref mh3])), (mh1, .inl (mc1, 60, .inl μ.1)), (mh2, .inl (mc2, 60, .inl μ.2.1)), (mh3, .inl (mc3, 60, .inl μ.2.2.1))]) (w1 := loWU xh0 xh1 xh2 xh3 xc1 xc2 xc3 oh oc (u1, u2)) hP hD [0, 1, 2, 3, 8] [4, 5, 6, 7] rfl rfl (by decide) (by decide) hk1 hFc hP1 hD1
  have hP := hP.sub (ws' := (lW xh0 xh1 xh2 xh3 mh0 mh1 mh2 mh3 oh xc1 xc2 xc3 mc1 mc2 mc3 oc u1 μ u2)) [4, 5, 6, 7, 0, 1, 2, 3, 8] rfl
  have hD := hD.sub (ws' := (lW xh0 xh1 xh2 xh3 mh0 mh1 mh2 mh3 oh xc1 xc2 xc3 mc1 mc2 mc3 oc u1 μ u2)) [4, 5, 6, 7, 0, 1, 2, 3, 8] (by decide) rfl
  generalize H1 = H at hP hS ⊢
  have hr9 := rl_frame ht9 hR (xs (x4 + 1).toNatClampNeg) (xs (x4 + 2).toNatClampNeg) (xs (x4 + 3).toNatClampNeg)
  refine lv_istore (lv' := [(5, .int r_1), (0, .ref b), (1, .ref xh0), (2, .ref mh0), (3, .ref oh), (4, .int x4)]) hx hb dL_law_484 hl (by decide) rfl (fun ls hl => ?_)
  refine lv_aload_n hx hb dL_law_486 rfl (lv_at hl 3 rfl) ?_
  refine lv_aload_n hx hb dL_law_487 rfl (lv_at hl 1 rfl) ?_
  refine lv_iload hx hb dL_law_488 (lv_at hl 5 rfl) ?_
  refine lv_iconst (v := 1) hx hb dL_law_490 (by decide) ?_
  refine lv_iadd hx hb dL_law_491 ?_
  refine va_sld hx hb hX hbl hbA hS hi1 dL_law_492 ?_
  refine lv_aload_n hx hb dL_law_493 rfl (lv_at hl 1 rfl) ?_
  refine lv_iload hx hb dL_law_494 (lv_at hl 5 rfl) ?_
  refine lv_iconst (v := 2) hx hb dL_law_496 (by decide) ?_
  refine lv_iadd hx hb dL_law_497 ?_
  refine va_sld hx hb hX hbl hbA hS hi2 dL_law_498 ?_
  refine lv_aload_n hx hb dL_law_499 rfl (lv_at hl 1 rfl) ?_
  refine lv_iload hx hb dL_law_500 (lv_at hl 5 rfl) ?_
  refine lv_iconst (v := 3) hx hb dL_law_502 (by decide) ?_
  refine lv_iadd hx hb dL_law_503 ?_
  refine va_sld hx hb hX hbl hbA hS hi3 dL_law_504 ?_
  have hPc := hP.sub (ws' := (mW mh0 mh1 mh2 mh3 mc1 mc2 mc3 μ.1 μ.2.1 μ.2.2.1 μ.2.2.2.1 μ.2.2.2.2.1 μ.2.2.2.2.2.1 μ.2.2.2.2.2.2.1 μ.2.2.2.2.2.2.2.1 μ.2.2.2.2.2.2.2.2.1 μ.2.2.2.2.2.2.2.2.2.1 μ.2.2.2.2.2.2.2.2.2.2.1 μ.2.2.2.2.2.2.2.2.2.2.2.1 μ.2.2.2.2.2.2.2.2.2.2.2.2)) [4, 5, 6, 7] rfl
  have hKc := hK.sub (tys' := [(mc1, .int), (mc2, .int), (mc3, .int)]) [3, 4, 5] rfl
  have hDc := hD.sub (ws' := (mW mh0 mh1 mh2 mh3 mc1 mc2 mc3 μ.1 μ.2.1 μ.2.2.1 μ.2.2.2.1 μ.2.2.2.2.1 μ.2.2.2.2.2.1 μ.2.2.2.2.2.2.1 μ.2.2.2.2.2.2.2.1 μ.2.2.2.2.2.2.2.2.1 μ.2.2.2.2.2.2.2.2.2.1 μ.2.2.2.2.2.2.2.2.2.2.1 μ.2.2.2.2.2.2.2.2.2.2.2.1 μ.2.2.2.2.2.2.2.2.2.2.2.2)) [4, 5, 6, 7] (by decide) rfl
  have hFc := va_free (wc := (mW mh0 mh1 mh2 mh3 mc1 mc2 mc3 μ.1 μ.2.1 μ.2.2.1 μ.2.2.2.1 μ.2.2.2.2.1 μ.2.2.2.2.2.1 μ.2.2.2.2.2.2.1 μ.2.2.2.2.2.2.2.1 μ.2.2.2.2.2.2.2.2.1 μ.2.2.2.2.2.2.2.2.2.1 μ.2.2.2.2.2.2.2.2.2.2.1 μ.2.2.2.2.2.2.2.2.2.2.2.1 μ.2.2.2.2.2.2.2.2.2.2.2.2)) hD hS hA [4, 5, 6, 7] rfl
  refine va_calli (va_runV (As := [.int (xs (x4 + 1).toNatClampNeg), .int (xs (x4 + 2).toNatClampNeg), .int (xs (x4 + 3).toNatClampNeg)]) (rest := []) ⟨hx, hb, hml, hown, htG⟩ (mX1_frame l dC dI mh0 mh1 mh2 mh3 H.size mc1 mc2 mc3 μ.1 μ.2.1 μ.2.2.1 μ.2.2.2.1 μ.2.2.2.2.1 μ.2.2.2.2.2.1 μ.2.2.2.2.2.2.1 μ.2.2.2.2.2.2.2.1 μ.2.2.2.2.2.2.2.2.1 μ.2.2.2.2.2.2.2.2.2.1 μ.2.2.2.2.2.2.2.2.2.2.1 μ.2.2.2.2.2.2.2.2.2.2.2.1 μ.2.2.2.2.2.2.2.2.2.2.2.2 (xs (x4 + 1).toNatClampNeg) (xs (x4 + 2).toNatClampNeg) (xs (x4 + 3).toNatClampNeg)) (cwV 3 htG (wG_V wd_439 wd_440 wd_441 wd_23 wd_442) rfl rfl rfl (by decide +kernel) ⟨Nat.le_of_ble_eq_true rfl, Nat.le_of_ble_eq_true rfl⟩) ⟨fun a U g mk q => by obtain ⟨q0, q1, qP, qK, qD⟩ := q; exact ⟨q0, q1, qP, va_K.moved (u := U) (U := U.calling g mk a) (Vm.Alike.refl U.vm) qK, qD⟩, va_recv hKc hPc (ci := 1) (q0 := 0) rfl rfl, fun U hU hW => ⟨rfl, by rw [hU], by rw [hU]; exact hPc, va_K.moved hW.alike hKc, hDc.weaken (fun _ _ _ _ => trivial)⟩⟩ rfl rfl hl.1 rfl (lv_room (Nat.le_of_ble_eq_true rfl)) dL_law_505 ⟨(by show _ ≤ 1049; omega), (by show _ ≤ 8676; omega)⟩) hS (fun q _ h => hFc q h) hFc (fun r_2 v t H1 locs ht hvm hw hB hz1 hk1 hS => ?_)
  obtain ⟨hP1, hK1, hD1⟩ := hB
  rw [ht] at hP1
  have hb2 : r_2 = (MF_frame μ (xs (x4 + 1).toNatClampNeg) (xs (x4 + 2).toNatClampNeg) (xs (x4 + 3).toNatClampNeg)).2.1 := congrArg (fun z => z.2.1) hw
  have hv : v = (MF_frame μ (xs (x4 + 1).toNatClampNeg) (xs (x4 + 2).toNatClampNeg) (xs (x4 + 3).toNatClampNeg)).2.2 := congrArg (fun z => z.2.2) hw
  obtain ⟨hP, hD⟩ := va_join (wr := [(xh0, .inr (0, [.ref xh1, .ref xh2, .ref xh3, .int u1.2.2.2.1, .int u1.2.2.2.2.1, .int u1.2.2.2.2.2.1, .int u1.2.2.2.2.2.2.1, .int u1.2.2.2.2.2.2.2.1, .int u1.2.2.2.2.2.2.2.2.1, .int u1.2.2.2.2.2.2.2.2.2.1, .int u1.2.2.2.2.2.2.2.2.2.2.1, .int u1.2.2.2.2.2.2.2.2.2.2.2.1, .int u1.2.2.2.2.2.2.2.2.2.2.2.2.1, .int u1.2.2.2.2.2.2.2.2.2.2.2.2.2])), (xh1, .inl (xc1, 60, .inl u1.1)), (xh2, .inl (xc2, 60, .inl u1.2.1)), (xh3, .inl (xc3, 60, .inl u1.2.2.1)), (oh, .inl (oc, 1, .inr (.inl u2)))]) (w1 := mWU mh0 mh1 mh2 mh3 mc1 mc2 mc3 v) hP hD [4, 5, 6, 7] [0, 1, 2, 3, 8] rfl rfl (by decide) (by decide) hk1 hFc hP1 hD1
  have hP := hP.sub (ws' := (lW xh0 xh1 xh2 xh3 mh0 mh1 mh2 mh3 oh xc1 xc2 xc3 mc1 mc2 mc3 oc u1 v u2)) [0, 1, 2, 3, 5, 6, 7, 8, 4] rfl
  have hD := hD.sub (ws' := (lW xh0 xh1 xh2 xh3 mh0 mh1 mh2 mh3 oh xc1 xc2 xc3 mc1 mc2 mc3 oc u1 v u2)) [0, 1, 2, 3, 5, 6, 7, 8, 4] (by decide) rfl
  generalize H1 = H at hP hS ⊢
  refine lv_istore (lv' := [(6, .int r_2), (5, .int r_1), (0, .ref b), (1, .ref xh0), (2, .ref mh0), (3, .ref oh), (4, .int x4)]) hx hb dL_law_508 hl (by decide) rfl (fun ls hl => ?_)
  refine lv_aload_n hx hb dL_law_510 rfl (lv_at hl 4 rfl) ?_
  have hPc := hP.sub (ws' := (mW mh0 mh1 mh2 mh3 mc1 mc2 mc3 v.1 v.2.1 v.2.2.1 v.2.2.2.1 v.2.2.2.2.1 v.2.2.2.2.2.1 v.2.2.2.2.2.2.1 v.2.2.2.2.2.2.2.1 v.2.2.2.2.2.2.2.2.1 v.2.2.2.2.2.2.2.2.2.1 v.2.2.2.2.2.2.2.2.2.2.1 v.2.2.2.2.2.2.2.2.2.2.2.1 v.2.2.2.2.2.2.2.2.2.2.2.2)) [4, 5, 6, 7] rfl
  have hKc := hK.sub (tys' := [(mc1, .int), (mc2, .int), (mc3, .int)]) [3, 4, 5] rfl
  refine vp_callSi (va_runV (As := []) (rest := []) ⟨hx, hb, hml, hown, htG⟩ (mX1_thrown l dC dI mh0 mh1 mh2 mh3 mc1 mc2 mc3 v.1 v.2.1 v.2.2.1 v.2.2.2.1 v.2.2.2.2.1 v.2.2.2.2.2.1 v.2.2.2.2.2.2.1 v.2.2.2.2.2.2.2.1 v.2.2.2.2.2.2.2.2.1 v.2.2.2.2.2.2.2.2.2.1 v.2.2.2.2.2.2.2.2.2.2.1 v.2.2.2.2.2.2.2.2.2.2.2.1 v.2.2.2.2.2.2.2.2.2.2.2.2) (cwV 0 htG (wG_V wd_371 wd_372 wd_373 wd_23 wd_374) rfl rfl rfl (by decide +kernel) ⟨Nat.le_of_ble_eq_true rfl, Nat.le_of_ble_eq_true rfl⟩) ⟨fun a U g mk q => by obtain ⟨q0, qP, qK⟩ := q; exact ⟨q0, qP, va_K.moved (u := U) (U := U.calling g mk a) (Vm.Alike.refl U.vm) qK⟩, va_recv hKc hPc (ci := 1) (q0 := 0) rfl rfl, fun U hU hW => ⟨rfl, by rw [hU]; exact hPc, va_K.moved hW.alike hKc⟩⟩ rfl rfl hl.1 rfl (lv_room (Nat.le_of_ble_eq_true rfl)) dL_law_511 ⟨(by show _ ≤ 1049; omega), (by show _ ≤ 8676; omega)⟩).run (fun r_3 er_3 => ?_)
  have hT : r_3 = r_1 := by rw [er_3, hk, hv]; exact hr9.2.1
  refine lv_iload hx hb dL_law_514 (lv_at hl 1 rfl) ?_
  refine lv_icmp_eq (tgt := 521) hx hb dL_law_516 (by decide) (fun c_1 => ?_) (fun c_1 => ?_)
  · refine lv_iload hx hb dL_law_521 (lv_at hl 1 rfl) ?_
    refine lv_if_ne (tgt := 538) hx hb dL_law_523 (by decide) (fun c_2 => ?_) (fun c_2 => ?_)
    · refine lv_goto (tgt := 622) hx hb dL_law_538 (by decide) ?_
      exact kk u1 v u2 _ _ _ (by rw [hu1, hv]; exact hr9.1) hP hD hS (lv_sub hl [2, 3, 4, 5, 6] rfl)
    · refine lv_aload_n hx hb dL_law_526 rfl (lv_at hl 5 rfl) ?_
      refine lv_iconst (v := 0) hx hb dL_law_527 (by decide) ?_
      refine va_lald hx hb hK hP 8 6 rfl rfl in_01 dL_law_528 ?_
      refine lv_iload hx hb dL_law_529 (lv_at hl 0 rfl) ?_
      refine lv_i2l hx hb dL_law_531 rfl ?_
      refine W.lcmp hx hb dL_law_532 ?_
      refine lv_if_eq (tgt := 538) hx hb dL_law_533 (by decide) (fun c_3 => ?_) (fun c_3 => ?_)
      · refine lv_goto (tgt := 622) hx hb dL_law_538 (by decide) ?_
        exact kk u1 v u2 _ _ _ (by rw [hu1, hv]; exact hr9.1) hP hD hS (lv_sub hl [2, 3, 4, 5, 6] rfl)
      · exact absurd (by rw [show u2 (0 : Int32).toNatClampNeg = r_2.toInt64 by rw [hu2, if_pos (hk.symm.trans c_2), pk_uLs, hr9.2.2 (hk.symm.trans c_2), ← hb2]]; exact lgc_refl _) c_3
  · exact absurd hT c_1
