theorem xg_58 : ∀ w ∈ (vx_atS RX0 58 "java/lang/IllegalArgumentException" ["java/lang/RuntimeException", "java/lang/Exception"]).filter goodWord, w ∈ wG := by decide +kernel

def fX0_begin (xk1 xk2 xk3 : Nat → Int32) (xf3 xf4 xf5 xf6 xf7 xf8 xf9 xf10 xf11 xf12 xf13 : Int32) (p0 p1 p2 p3 : Int32) : Int32 × Int32 × xWS :=
  if p0 < 0 then (1, 0, (xk1, xk2, xk3, xf3, xf4, xf5, xf6, xf7, xf8, xf9, xf10, xf11, xf12, xf13))
  else if p0 ≤ 4 then (if p0 = 3 then (if (fX0_isRecord p1 p2) = 0 then (1, 0, (xk1, xk2, xk3, xf3, xf4, xf5, xf6, xf7, xf8, xf9, xf10, xf11, xf12, xf13))
        else (0, 0, (xk1, xk2, xk3, 0, p0, p3, 4, xf7, xf8, xf9, xf10, xf11, xf12, xf13)))
      else (0, 0, (xk1, xk2, xk3, 0, p0, p3, 0, xf7, xf8, xf9, xf10, xf11, xf12, xf13)))
    else (1, 0, (xk1, xk2, xk3, xf3, xf4, xf5, xf6, xf7, xf8, xf9, xf10, xf11, xf12, xf13))

abbrev wsX0_begin : List Cond := .code yX0_begin cX0_begin 5 none :: wG
set_option maxHeartbeats 4000000 in
set_option maxRecDepth 100000 in
theorem mX0_begin (l : Launch) (hl9 : l.stackTraces = false) (dC : Nat → ClassId) (dI : Nat → Nat → Nat) (xh0 xh1 xh2 xh3 : Nat) (sz : Nat) (xc1 xc2 xc3 : ClassId) (xk1 xk2 xk3 : Nat → Int32) (xf3 xf4 xf5 xf6 xf7 xf8 xf9 xf10 xf11 xf12 xf13 : Int32) (p0 p1 p2 p3 : Int32) (ho : p3 = 0 ∨ p3 = 1) : vx_Met l yX0_begin wsX0_begin ({ frames := 6, cells := 1, slots := 6, locals := 82 }) (va_Pc [.ref xh0, .int p0, .int p1, .int p2, .int p3] (fun U => U.heap.size = sz ∧ va_P (dC, dI) vwCl (xW xh0 xh1 xh2 xh3 xc1 xc2 xc3 xk1 xk2 xk3 xf3 xf4 xf5 xf6 xf7 xf8 xf9 xf10 xf11 xf12 xf13) U.heap ∧ va_K (dC, dI) vwCl [(xc1, .int), (xc2, .int), (xc3, .int)] U ∧ va_D (fun _ => True) (xW xh0 xh1 xh2 xh3 xc1 xc2 xc3 xk1 xk2 xk3 xf3 xf4 xf5 xf6 xf7 xf8 xf9 xf10 xf11 xf12 xf13) ∧ xZ (va_A (xW xh0 xh1 xh2 xh3 xc1 xc2 xc3 xk1 xk2 xk3 xf3 xf4 xf5 xf6 xf7 xf8 xf9 xf10 xf11 xf12 xf13) sz) U U.heap)) (va_Qv (fun u => (0, 0, u) = fX0_begin xk1 xk2 xk3 xf3 xf4 xf5 xf6 xf7 xf8 xf9 xf10 xf11 xf12 xf13 p0 p1 p2 p3) (xWB dC dI (va_A (xW xh0 xh1 xh2 xh3 xc1 xc2 xc3 xk1 xk2 xk3 xf3 xf4 xf5 xf6 xf7 xf8 xf9 xf10 xf11 xf12 xf13) sz) xh0 xh1 xh2 xh3 xc1 xc2 xc3) (va_A (xW xh0 xh1 xh2 xh3 xc1 xc2 xc3 xk1 xk2 xk3 xf3 xf4 xf5 xf6 xf7 xf8 xf9 xf10 xf11 xf12 xf13) sz)) (vx_X (fun _ : Unit => True) (fun E _ t => ((E = "java/lang/IllegalArgumentException" ∧ fX0_begin xk1 xk2 xk3 xf3 xf4 xf5 xf6 xf7 xf8 xf9 xf10 xf11 xf12 xf13 p0 p1 p2 p3 = (1, 0, (xk1, xk2, xk3, xf3, xf4, xf5, xf6, xf7, xf8, xf9, xf10, xf11, xf12, xf13)))) ∧ xWB dC dI (va_A (xW xh0 xh1 xh2 xh3 xc1 xc2 xc3 xk1 xk2 xk3 xf3 xf4 xf5 xf6 xf7 xf8 xf9 xf10 xf11 xf12 xf13) sz) xh0 xh1 xh2 xh3 xc1 xc2 xc3 (xk1, xk2, xk3, xf3, xf4, xf5, xf6, xf7, xf8, xf9, xf10, xf11, xf12, xf13) t) (va_A (xW xh0 xh1 xh2 xh3 xc1 xc2 xc3 xk1 xk2 xk3 xf3 xf4 xf5 xf6 xf7 xf8 xf9 xf10 xf11 xf12 xf13) sz)) 1 6 (va_A (xW xh0 xh1 xh2 xh3 xc1 xc2 xc3 xk1 xk2 xk3 xf3 xf4 xf5 xf6 xf7 xf8 xf9 xf10 xf11 xf12 xf13) sz) := by
  refine vx_ofW (cc := cX0_begin) (maxL := 5) (ret := none) (by decide) rfl ?_
  intro p e s m args below meth c s₁ B hml hEx hv
  obtain ⟨rfl, hsz, hP, hK, hD0, hZ⟩ := hv
  have hx := B.exec
  have hb := B.bytes
  have hr := B.returns
  have hts := atoms_spec (ws := wsX0_begin) B.pre
  have htG := fun (w : Cond) (h : w ∈ wG) => hts w (List.mem_cons_of_mem _ h)
  have hown : s.vm.findClass RX0 = some m.cls := findClass_of_methodNamed B.named
  have hlocks := B.notSynchronized
  subst hsz
  have hD := hD0.self (sz := s.heap.size)
  generalize hAe : va_A (xW xh0 xh1 xh2 xh3 xc1 xc2 xc3 xk1 xk2 xk3 xf3 xf4 xf5 xf6 xf7 xf8 xf9 xf10 xf11 xf12 xf13) s.heap.size = A at hD hZ ⊢
  have hA : ∀ q : Nat, s.heap.size ≤ q → A q := fun q h => by rw [← hAe]; exact Or.inr h
  have hS : va_S A s.heap s.heap [] := va_S.rf
  have hP : va_P (dC, dI) vwCl (xW xh0 xh1 xh2 xh3 xc1 xc2 xc3 xk1 xk2 xk3 xf3 xf4 xf5 xf6 xf7 xf8 xf9 xf10 xf11 xf12 xf13) s.heap := hP
  have hl := lv_entry ([.ref xh0, .int p0, .int p1, .int p2, .int p3]) (n := 5) (Nat.le_of_ble_eq_true rfl)
  rw [lg_entry_eq]
  generalize (lg_sl ([.ref xh0, .int p0, .int p1, .int p2, .int p3]) ++ List.replicate (5 - (lg_sl ([.ref xh0, .int p0, .int p1, .int p2, .int p3])).length) Slot.unset).toArray = ls at hl ⊢
  have hl : lv_has ls 5 [(0, .ref xh0), (1, .int p0), (2, .int p1), (3, .int p2), (4, .int p3)] := hl
  refine lv_iload_n hx hb dX0_begin_0 rfl (lv_at hl 1 rfl) ?_
  refine lv_if_lt (tgt := 9) hx hb dX0_begin_1 (by decide) (fun c_1 => ?_) (fun c_1 => ?_)
  · obtain ⟨sa, hstr⟩ := hZ.2.2.2.1
    exact vx_throwS (own := RX0) (cls := "java/lang/IllegalArgumentException") (names := ["java/lang/RuntimeException", "java/lang/Exception"]) hx hb hl9 hown (by decide +kernel) (by decide +kernel) (htG _ wd_110) (htG _ wd_27) hstr (vx_hat (L := vx_atS RX0 58 "java/lang/IllegalArgumentException" ["java/lang/RuntimeException", "java/lang/Exception"]) (B := [.castable "java/lang/IllegalArgumentException" "java/lang/IllegalArgumentException", .declares ⟨"java/lang/RuntimeException", "<init>", "(Ljava/lang/String;)V"⟩, .declares ⟨"java/lang/Exception", "<init>", "(Ljava/lang/String;)V"⟩, .declares ⟨"java/lang/Throwable", "<init>", "(Ljava/lang/String;)V"⟩]) (fun w hw => htG w (xg_58 w hw)) (by decide +kernel) (vx_c (va_Nw.use rfl hZ.2.2.1.1) (vx_c (va_Nw.use rfl hZ.2.2.1.2.1) (vx_c (va_Nw.use rfl hZ.2.2.1.2.2.1) (vx_c (va_Nw.use rfl hZ.2.2.1.2.2.2.1) (vx_n)))))) (by decide +kernel) hZ.1 hZ.2.1 hS (hl.1.trans hml.symm) dX0_begin_9 dX0_begin_12 dX0_begin_13 dX0_begin_15 dX0_begin_18 (fun x hx => (hEx x hx).elim) (Nat.le_of_ble_eq_true rfl) (Nat.le_of_ble_eq_true rfl) (Nat.le_of_ble_eq_true rfl) (Nat.le_of_ble_eq_true rfl) hlocks (fun t ha hsz hk => ⟨(), trivial, ⟨⟨rfl, (by rw [fX0_begin, if_pos c_1])⟩, hP.kept (fun k q hq => hk q.1 (hP k q hq).lt), va_K.moved ha hK, hD⟩, Nat.le_trans hS.1 hsz, fun q h1 h2 => (hk q (Nat.lt_of_lt_of_le h1 hS.1)).trans (hS.2.1 q h1 h2)⟩) hS.2.2 (Nat.le_of_ble_eq_true rfl) (Nat.le_of_ble_eq_true rfl)
  · refine lv_iload_n hx hb dX0_begin_4 rfl (lv_at hl 1 rfl) ?_
    refine lv_iconst (v := 4) hx hb dX0_begin_5 (by decide) ?_
    refine lv_icmp_le (tgt := 19) hx hb dX0_begin_6 (by decide) (fun c_2 => ?_) (fun c_2 => ?_)
    · refine lv_iload_n hx hb dX0_begin_19 rfl (lv_at hl 1 rfl) ?_
      refine lv_iconst (v := 3) hx hb dX0_begin_20 (by decide) ?_
      refine lv_icmp_ne (tgt := 42) hx hb dX0_begin_21 (by decide) (fun c_3 => ?_) (fun c_3 => ?_)
      · refine lv_aload_n hx hb dX0_begin_42 rfl (lv_at hl 0 rfl) ?_
        refine lv_iload_n hx hb dX0_begin_43 rfl (lv_at hl 1 rfl) ?_
        refine va_put (D := (dC, dI)) (ci := 0) (v := .int p0) (ty := .int) (C := RX0) (T := TX0) (N := 14) hx hb htG inX0 tyX0 tyX0_ok nmX0 hown hK hP hD hS 0 rfl rfl 4 (by decide) (htG _ wd_44) (fun _ h9 => h9) rfl (by decide +kernel) rfl rfl (Nat.le_of_ble_eq_true rfl) dX0_begin_44 (fun H locs hP hD hS => ?_)
        have hP : va_P (dC, dI) vwCl (xW xh0 xh1 xh2 xh3 xc1 xc2 xc3 xk1 xk2 xk3 xf3 p0 xf5 xf6 xf7 xf8 xf9 xf10 xf11 xf12 xf13) H := hP
        have hD : va_D A (xW xh0 xh1 xh2 xh3 xc1 xc2 xc3 xk1 xk2 xk3 xf3 p0 xf5 xf6 xf7 xf8 xf9 xf10 xf11 xf12 xf13) := hD
        refine lv_aload_n hx hb dX0_begin_47 rfl (lv_at hl 0 rfl) ?_
        refine lv_iload hx hb dX0_begin_48 (lv_at hl 4 rfl) ?_
        refine va_put (D := (dC, dI)) (ci := 0) (v := .int p3) (ty := .boolean) (C := RX0) (T := TX0) (N := 14) hx hb htG inX0 tyX0 tyX0_ok nmX0 hown hK hP hD hS 0 rfl rfl 5 (by decide) (htG _ wd_45) (fun _ h9 => h9) rfl (by decide +kernel) (nb_of ho) (fb_of ho) (Nat.le_of_ble_eq_true rfl) dX0_begin_50 (fun H locs hP hD hS => ?_)
        have hP : va_P (dC, dI) vwCl (xW xh0 xh1 xh2 xh3 xc1 xc2 xc3 xk1 xk2 xk3 xf3 p0 p3 xf6 xf7 xf8 xf9 xf10 xf11 xf12 xf13) H := hP
        have hD : va_D A (xW xh0 xh1 xh2 xh3 xc1 xc2 xc3 xk1 xk2 xk3 xf3 p0 p3 xf6 xf7 xf8 xf9 xf10 xf11 xf12 xf13) := hD
        refine lv_aload_n hx hb dX0_begin_53 rfl (lv_at hl 0 rfl) ?_
        refine lv_iconst (v := 0) hx hb dX0_begin_54 (by decide) ?_
        refine va_put (D := (dC, dI)) (ci := 0) (v := .int 0) (ty := .int) (C := RX0) (T := TX0) (N := 14) hx hb htG inX0 tyX0 tyX0_ok nmX0 hown hK hP hD hS 0 rfl rfl 3 (by decide) (htG _ wd_43) (fun _ h9 => h9) rfl (by decide +kernel) rfl rfl (Nat.le_of_ble_eq_true rfl) dX0_begin_55 (fun H locs hP hD hS => ?_)
        have hP : va_P (dC, dI) vwCl (xW xh0 xh1 xh2 xh3 xc1 xc2 xc3 xk1 xk2 xk3 0 p0 p3 xf6 xf7 xf8 xf9 xf10 xf11 xf12 xf13) H := hP
        have hD : va_D A (xW xh0 xh1 xh2 xh3 xc1 xc2 xc3 xk1 xk2 xk3 0 p0 p3 xf6 xf7 xf8 xf9 xf10 xf11 xf12 xf13) := hD
        refine lv_aload_n hx hb dX0_begin_58 rfl (lv_at hl 0 rfl) ?_
        refine lv_iload_n hx hb dX0_begin_59 rfl (lv_at hl 1 rfl) ?_
        refine lv_iconst (v := 3) hx hb dX0_begin_60 (by decide) ?_
        refine lv_icmp_ne (tgt := 68) hx hb dX0_begin_61 (by decide) (fun c_4 => ?_) (fun c_4 => ?_)
        · refine lv_iconst (v := 0) hx hb dX0_begin_68 (by decide) ?_
          refine va_put (D := (dC, dI)) (ci := 0) (v := .int 0) (ty := .int) (C := RX0) (T := TX0) (N := 14) hx hb htG inX0 tyX0 tyX0_ok nmX0 hown hK hP hD hS 0 rfl rfl 6 (by decide) (htG _ wd_46) (fun _ h9 => h9) rfl (by decide +kernel) rfl rfl (Nat.le_of_ble_eq_true rfl) dX0_begin_69 (fun H locs hP hD hS => ?_)
          have hP : va_P (dC, dI) vwCl (xW xh0 xh1 xh2 xh3 xc1 xc2 xc3 xk1 xk2 xk3 0 p0 p3 0 xf7 xf8 xf9 xf10 xf11 xf12 xf13) H := hP
          have hD : va_D A (xW xh0 xh1 xh2 xh3 xc1 xc2 xc3 xk1 xk2 xk3 0 p0 p3 0 xf7 xf8 xf9 xf10 xf11 xf12 xf13) := hD
          refine W.widen (k := 1) (n := 6) (Nat.le_of_ble_eq_true rfl) (Nat.le_of_ble_eq_true rfl) ?_
          exact vx_ret (W.vret hx hb hr (fun t ht hW => ⟨⟨(xk1, xk2, xk3, 0, p0, p3, 0, xf7, xf8, xf9, xf10, xf11, xf12, xf13), rfl, (by rw [fX0_begin, if_neg c_1, if_pos c_2, if_neg c_3]), by rw [ht]; exact hP, va_K.moved hW.alike hK, hD⟩, hS.F ht⟩) hS.2.2 dX0_begin_72)
        · exact absurd c_4 c_3
      · refine lv_iload_n hx hb dX0_begin_24 rfl (lv_at hl 2 rfl) ?_
        refine lv_iload_n hx hb dX0_begin_25 rfl (lv_at hl 3 rfl) ?_
        refine vp_callSi (va_runS (As := [.int p1, .int p2]) (rest := []) ⟨hx, hb, hml, hown, htG⟩ (mX0_isRecord l p1 p2) (va_cwS 2 htG (wG_S wd_178 wd_179 wd_22 wd_180) rfl rfl rfl (by decide +kernel) ⟨Nat.le_of_ble_eq_true rfl, Nat.le_of_ble_eq_true rfl⟩) ⟨fun _ _ _ _ q => q, fun U hU hW => ⟨rfl, trivial⟩⟩ rfl rfl hl.1 rfl (lv_room (Nat.le_of_ble_eq_true rfl)) dX0_begin_26 ⟨Nat.le_of_ble_eq_true rfl, Nat.le_of_ble_eq_true rfl⟩).run (fun r_1 er_1 => ?_)
        subst er_1
        refine lv_if_ne (tgt := 42) hx hb dX0_begin_29 (by decide) (fun c_5 => ?_) (fun c_5 => ?_)
        · refine lv_aload_n hx hb dX0_begin_42 rfl (lv_at hl 0 rfl) ?_
          refine lv_iload_n hx hb dX0_begin_43 rfl (lv_at hl 1 rfl) ?_
          refine va_put (D := (dC, dI)) (ci := 0) (v := .int p0) (ty := .int) (C := RX0) (T := TX0) (N := 14) hx hb htG inX0 tyX0 tyX0_ok nmX0 hown hK hP hD hS 0 rfl rfl 4 (by decide) (htG _ wd_44) (fun _ h9 => h9) rfl (by decide +kernel) rfl rfl (Nat.le_of_ble_eq_true rfl) dX0_begin_44 (fun H locs hP hD hS => ?_)
          have hP : va_P (dC, dI) vwCl (xW xh0 xh1 xh2 xh3 xc1 xc2 xc3 xk1 xk2 xk3 xf3 p0 xf5 xf6 xf7 xf8 xf9 xf10 xf11 xf12 xf13) H := hP
          have hD : va_D A (xW xh0 xh1 xh2 xh3 xc1 xc2 xc3 xk1 xk2 xk3 xf3 p0 xf5 xf6 xf7 xf8 xf9 xf10 xf11 xf12 xf13) := hD
          refine lv_aload_n hx hb dX0_begin_47 rfl (lv_at hl 0 rfl) ?_
          refine lv_iload hx hb dX0_begin_48 (lv_at hl 4 rfl) ?_
          refine va_put (D := (dC, dI)) (ci := 0) (v := .int p3) (ty := .boolean) (C := RX0) (T := TX0) (N := 14) hx hb htG inX0 tyX0 tyX0_ok nmX0 hown hK hP hD hS 0 rfl rfl 5 (by decide) (htG _ wd_45) (fun _ h9 => h9) rfl (by decide +kernel) (nb_of ho) (fb_of ho) (Nat.le_of_ble_eq_true rfl) dX0_begin_50 (fun H locs hP hD hS => ?_)
          have hP : va_P (dC, dI) vwCl (xW xh0 xh1 xh2 xh3 xc1 xc2 xc3 xk1 xk2 xk3 xf3 p0 p3 xf6 xf7 xf8 xf9 xf10 xf11 xf12 xf13) H := hP
          have hD : va_D A (xW xh0 xh1 xh2 xh3 xc1 xc2 xc3 xk1 xk2 xk3 xf3 p0 p3 xf6 xf7 xf8 xf9 xf10 xf11 xf12 xf13) := hD
          refine lv_aload_n hx hb dX0_begin_53 rfl (lv_at hl 0 rfl) ?_
          refine lv_iconst (v := 0) hx hb dX0_begin_54 (by decide) ?_
          refine va_put (D := (dC, dI)) (ci := 0) (v := .int 0) (ty := .int) (C := RX0) (T := TX0) (N := 14) hx hb htG inX0 tyX0 tyX0_ok nmX0 hown hK hP hD hS 0 rfl rfl 3 (by decide) (htG _ wd_43) (fun _ h9 => h9) rfl (by decide +kernel) rfl rfl (Nat.le_of_ble_eq_true rfl) dX0_begin_55 (fun H locs hP hD hS => ?_)
          have hP : va_P (dC, dI) vwCl (xW xh0 xh1 xh2 xh3 xc1 xc2 xc3 xk1 xk2 xk3 0 p0 p3 xf6 xf7 xf8 xf9 xf10 xf11 xf12 xf13) H := hP
          have hD : va_D A (xW xh0 xh1 xh2 xh3 xc1 xc2 xc3 xk1 xk2 xk3 0 p0 p3 xf6 xf7 xf8 xf9 xf10 xf11 xf12 xf13) := hD
          refine lv_aload_n hx hb dX0_begin_58 rfl (lv_at hl 0 rfl) ?_
          refine lv_iload_n hx hb dX0_begin_59 rfl (lv_at hl 1 rfl) ?_
          refine lv_iconst (v := 3) hx hb dX0_begin_60 (by decide) ?_
          refine lv_icmp_ne (tgt := 68) hx hb dX0_begin_61 (by decide) (fun c_6 => ?_) (fun c_6 => ?_)
          · exact absurd c_3 c_6
          · refine lv_iconst (v := 4) hx hb dX0_begin_64 (by decide) ?_
            refine lv_goto (tgt := 69) hx hb dX0_begin_65 (by decide) ?_
            refine va_put (D := (dC, dI)) (ci := 0) (v := .int 4) (ty := .int) (C := RX0) (T := TX0) (N := 14) hx hb htG inX0 tyX0 tyX0_ok nmX0 hown hK hP hD hS 0 rfl rfl 6 (by decide) (htG _ wd_46) (fun _ h9 => h9) rfl (by decide +kernel) rfl rfl (Nat.le_of_ble_eq_true rfl) dX0_begin_69 (fun H locs hP hD hS => ?_)
            have hP : va_P (dC, dI) vwCl (xW xh0 xh1 xh2 xh3 xc1 xc2 xc3 xk1 xk2 xk3 0 p0 p3 4 xf7 xf8 xf9 xf10 xf11 xf12 xf13) H := hP
            have hD : va_D A (xW xh0 xh1 xh2 xh3 xc1 xc2 xc3 xk1 xk2 xk3 0 p0 p3 4 xf7 xf8 xf9 xf10 xf11 xf12 xf13) := hD
            refine W.widen (k := 1) (n := 6) (Nat.le_of_ble_eq_true rfl) (Nat.le_of_ble_eq_true rfl) ?_
            exact vx_ret (W.vret hx hb hr (fun t ht hW => ⟨⟨(xk1, xk2, xk3, 0, p0, p3, 4, xf7, xf8, xf9, xf10, xf11, xf12, xf13), rfl, (by rw [fX0_begin, if_neg c_1, if_pos c_2, if_pos c_3, if_neg c_5]), by rw [ht]; exact hP, va_K.moved hW.alike hK, hD⟩, hS.F ht⟩) hS.2.2 dX0_begin_72)
        · obtain ⟨sa, hstr⟩ := hZ.2.2.2.2.1
          exact vx_throwS (own := RX0) (cls := "java/lang/IllegalArgumentException") (names := ["java/lang/RuntimeException", "java/lang/Exception"]) hx hb hl9 hown (by decide +kernel) (by decide +kernel) (htG _ wd_110) (htG _ wd_27) hstr (vx_hat (L := vx_atS RX0 58 "java/lang/IllegalArgumentException" ["java/lang/RuntimeException", "java/lang/Exception"]) (B := [.castable "java/lang/IllegalArgumentException" "java/lang/IllegalArgumentException", .declares ⟨"java/lang/RuntimeException", "<init>", "(Ljava/lang/String;)V"⟩, .declares ⟨"java/lang/Exception", "<init>", "(Ljava/lang/String;)V"⟩, .declares ⟨"java/lang/Throwable", "<init>", "(Ljava/lang/String;)V"⟩]) (fun w hw => htG w (xg_58 w hw)) (by decide +kernel) (vx_c (va_Nw.use rfl hZ.2.2.1.1) (vx_c (va_Nw.use rfl hZ.2.2.1.2.1) (vx_c (va_Nw.use rfl hZ.2.2.1.2.2.1) (vx_c (va_Nw.use rfl hZ.2.2.1.2.2.2.1) (vx_n)))))) (by decide +kernel) hZ.1 hZ.2.1 hS (hl.1.trans hml.symm) dX0_begin_32 dX0_begin_35 dX0_begin_36 dX0_begin_38 dX0_begin_41 (fun x hx => (hEx x hx).elim) (Nat.le_of_ble_eq_true rfl) (Nat.le_of_ble_eq_true rfl) (Nat.le_of_ble_eq_true rfl) (Nat.le_of_ble_eq_true rfl) hlocks (fun t ha hsz hk => ⟨(), trivial, ⟨⟨rfl, (by rw [fX0_begin, if_neg c_1, if_pos c_2, if_pos c_3, if_pos c_5])⟩, hP.kept (fun k q hq => hk q.1 (hP k q hq).lt), va_K.moved ha hK, hD⟩, Nat.le_trans hS.1 hsz, fun q h1 h2 => (hk q (Nat.lt_of_lt_of_le h1 hS.1)).trans (hS.2.1 q h1 h2)⟩) hS.2.2 (Nat.le_of_ble_eq_true rfl) (Nat.le_of_ble_eq_true rfl)
    · obtain ⟨sa, hstr⟩ := hZ.2.2.2.1
      exact vx_throwS (own := RX0) (cls := "java/lang/IllegalArgumentException") (names := ["java/lang/RuntimeException", "java/lang/Exception"]) hx hb hl9 hown (by decide +kernel) (by decide +kernel) (htG _ wd_110) (htG _ wd_27) hstr (vx_hat (L := vx_atS RX0 58 "java/lang/IllegalArgumentException" ["java/lang/RuntimeException", "java/lang/Exception"]) (B := [.castable "java/lang/IllegalArgumentException" "java/lang/IllegalArgumentException", .declares ⟨"java/lang/RuntimeException", "<init>", "(Ljava/lang/String;)V"⟩, .declares ⟨"java/lang/Exception", "<init>", "(Ljava/lang/String;)V"⟩, .declares ⟨"java/lang/Throwable", "<init>", "(Ljava/lang/String;)V"⟩]) (fun w hw => htG w (xg_58 w hw)) (by decide +kernel) (vx_c (va_Nw.use rfl hZ.2.2.1.1) (vx_c (va_Nw.use rfl hZ.2.2.1.2.1) (vx_c (va_Nw.use rfl hZ.2.2.1.2.2.1) (vx_c (va_Nw.use rfl hZ.2.2.1.2.2.2.1) (vx_n)))))) (by decide +kernel) hZ.1 hZ.2.1 hS (hl.1.trans hml.symm) dX0_begin_9 dX0_begin_12 dX0_begin_13 dX0_begin_15 dX0_begin_18 (fun x hx => (hEx x hx).elim) (Nat.le_of_ble_eq_true rfl) (Nat.le_of_ble_eq_true rfl) (Nat.le_of_ble_eq_true rfl) (Nat.le_of_ble_eq_true rfl) hlocks (fun t ha hsz hk => ⟨(), trivial, ⟨⟨rfl, (by rw [fX0_begin, if_neg c_1, if_neg c_2])⟩, hP.kept (fun k q hq => hk q.1 (hP k q hq).lt), va_K.moved ha hK, hD⟩, Nat.le_trans hS.1 hsz, fun q h1 h2 => (hk q (Nat.lt_of_lt_of_le h1 hS.1)).trans (hS.2.1 q h1 h2)⟩) hS.2.2 (Nat.le_of_ble_eq_true rfl) (Nat.le_of_ble_eq_true rfl)

theorem xg_95 : ∀ w ∈ (vx_atS RX0 95 "java/lang/IndexOutOfBoundsException" ["java/lang/RuntimeException", "java/lang/Exception"]).filter goodWord, w ∈ wG := by decide +kernel

def fX0_signature (xk1 xk2 xk3 : Nat → Int32) (xf3 xf4 xf5 xf6 xf7 xf8 xf9 xf10 xf11 xf12 xf13 : Int32) (p0 : Int32) : Int32 × Int32 × xWS :=
  if p0 = 0 then (0, (fX0_areaSize xf6), (xk1, xk2, xk3, xf3, xf4, xf5, xf6, xf7, xf8, xf9, xf10, xf11, xf12, xf13))
  else if p0 = 1 then (0, xf3, (xk1, xk2, xk3, xf3, xf4, xf5, xf6, xf7, xf8, xf9, xf10, xf11, xf12, xf13))
    else if p0 = 2 then (0, (fX0_resultPlace xf4), (xk1, xk2, xk3, xf3, xf4, xf5, xf6, xf7, xf8, xf9, xf10, xf11, xf12, xf13))
      else if p0 = 3 then (0, xf6, (xk1, xk2, xk3, xf3, xf4, xf5, xf6, xf7, xf8, xf9, xf10, xf11, xf12, xf13))
        else (1, 0, (xk1, xk2, xk3, xf3, xf4, xf5, xf6, xf7, xf8, xf9, xf10, xf11, xf12, xf13))

abbrev wsX0_signature : List Cond := .code yX0_signature cX0_signature 2 (some .int) :: wG
set_option maxHeartbeats 4000000 in
set_option maxRecDepth 100000 in
theorem mX0_signature (l : Launch) (hl9 : l.stackTraces = false) (dC : Nat → ClassId) (dI : Nat → Nat → Nat) (xh0 xh1 xh2 xh3 : Nat) (sz : Nat) (xc1 xc2 xc3 : ClassId) (xk1 xk2 xk3 : Nat → Int32) (xf3 xf4 xf5 xf6 xf7 xf8 xf9 xf10 xf11 xf12 xf13 : Int32) (p0 : Int32)  : vx_Met l yX0_signature wsX0_signature ({ frames := 6, cells := 1, slots := 6, locals := 82 }) (va_Pc [.ref xh0, .int p0] (fun U => U.heap.size = sz ∧ va_P (dC, dI) vwCl (xW xh0 xh1 xh2 xh3 xc1 xc2 xc3 xk1 xk2 xk3 xf3 xf4 xf5 xf6 xf7 xf8 xf9 xf10 xf11 xf12 xf13) U.heap ∧ va_K (dC, dI) vwCl [(xc1, .int), (xc2, .int), (xc3, .int)] U ∧ va_D (fun _ => True) (xW xh0 xh1 xh2 xh3 xc1 xc2 xc3 xk1 xk2 xk3 xf3 xf4 xf5 xf6 xf7 xf8 xf9 xf10 xf11 xf12 xf13) ∧ xZ (va_A (xW xh0 xh1 xh2 xh3 xc1 xc2 xc3 xk1 xk2 xk3 xf3 xf4 xf5 xf6 xf7 xf8 xf9 xf10 xf11 xf12 xf13) sz) U U.heap)) (va_Qi (fun r u => (0, r, u) = fX0_signature xk1 xk2 xk3 xf3 xf4 xf5 xf6 xf7 xf8 xf9 xf10 xf11 xf12 xf13 p0) (xWB dC dI (va_A (xW xh0 xh1 xh2 xh3 xc1 xc2 xc3 xk1 xk2 xk3 xf3 xf4 xf5 xf6 xf7 xf8 xf9 xf10 xf11 xf12 xf13) sz) xh0 xh1 xh2 xh3 xc1 xc2 xc3) (va_A (xW xh0 xh1 xh2 xh3 xc1 xc2 xc3 xk1 xk2 xk3 xf3 xf4 xf5 xf6 xf7 xf8 xf9 xf10 xf11 xf12 xf13) sz)) (vx_X (fun _ : Unit => True) (fun E _ t => ((E = "java/lang/IndexOutOfBoundsException" ∧ fX0_signature xk1 xk2 xk3 xf3 xf4 xf5 xf6 xf7 xf8 xf9 xf10 xf11 xf12 xf13 p0 = (1, 0, (xk1, xk2, xk3, xf3, xf4, xf5, xf6, xf7, xf8, xf9, xf10, xf11, xf12, xf13)))) ∧ xWB dC dI (va_A (xW xh0 xh1 xh2 xh3 xc1 xc2 xc3 xk1 xk2 xk3 xf3 xf4 xf5 xf6 xf7 xf8 xf9 xf10 xf11 xf12 xf13) sz) xh0 xh1 xh2 xh3 xc1 xc2 xc3 (xk1, xk2, xk3, xf3, xf4, xf5, xf6, xf7, xf8, xf9, xf10, xf11, xf12, xf13) t) (va_A (xW xh0 xh1 xh2 xh3 xc1 xc2 xc3 xk1 xk2 xk3 xf3 xf4 xf5 xf6 xf7 xf8 xf9 xf10 xf11 xf12 xf13) sz)) 1 6 (va_A (xW xh0 xh1 xh2 xh3 xc1 xc2 xc3 xk1 xk2 xk3 xf3 xf4 xf5 xf6 xf7 xf8 xf9 xf10 xf11 xf12 xf13) sz) := by
  refine vx_ofW (cc := cX0_signature) (maxL := 2) (ret := (some .int)) (by decide) rfl ?_
  intro p e s m args below meth c s₁ B hml hEx hv
  obtain ⟨rfl, hsz, hP, hK, hD0, hZ⟩ := hv
  have hx := B.exec
  have hb := B.bytes
  have hr := B.returns
  have hts := atoms_spec (ws := wsX0_signature) B.pre
  have htG := fun (w : Cond) (h : w ∈ wG) => hts w (List.mem_cons_of_mem _ h)
  have hown : s.vm.findClass RX0 = some m.cls := findClass_of_methodNamed B.named
  have hlocks := B.notSynchronized
  subst hsz
  have hD := hD0.self (sz := s.heap.size)
  generalize hAe : va_A (xW xh0 xh1 xh2 xh3 xc1 xc2 xc3 xk1 xk2 xk3 xf3 xf4 xf5 xf6 xf7 xf8 xf9 xf10 xf11 xf12 xf13) s.heap.size = A at hD hZ ⊢
  have hA : ∀ q : Nat, s.heap.size ≤ q → A q := fun q h => by rw [← hAe]; exact Or.inr h
  have hS : va_S A s.heap s.heap [] := va_S.rf
  have hP : va_P (dC, dI) vwCl (xW xh0 xh1 xh2 xh3 xc1 xc2 xc3 xk1 xk2 xk3 xf3 xf4 xf5 xf6 xf7 xf8 xf9 xf10 xf11 xf12 xf13) s.heap := hP
  have hl := lv_entry ([.ref xh0, .int p0]) (n := 2) (Nat.le_of_ble_eq_true rfl)
  rw [lg_entry_eq]
  generalize (lg_sl ([.ref xh0, .int p0]) ++ List.replicate (2 - (lg_sl ([.ref xh0, .int p0])).length) Slot.unset).toArray = ls at hl ⊢
  have hl : lv_has ls 2 [(0, .ref xh0), (1, .int p0)] := hl
  refine lv_iload_n hx hb dX0_signature_0 rfl (lv_at hl 1 rfl) ?_
  -- a switch of p0
  rcases Classical.em (p0 = 0) with c_1 | c_1
  · refine lv_tableIn (tgt := 32) (off := 31) hx hb dX0_signature_1 (by rw [c_1]; decide) (by rw [c_1]; decide) (by rw [c_1]; rfl) (by decide) ?_
    refine lv_aload_n hx hb dX0_signature_32 rfl (lv_at hl 0 rfl) ?_
    refine vp_callSi (va_runV (As := []) (rest := []) ⟨hx, hb, hml, hown, htG⟩ (mX0_areaSize l dC dI xh0 xh1 xh2 xh3 xc1 xc2 xc3 xk1 xk2 xk3 xf3 xf4 xf5 xf6 xf7 xf8 xf9 xf10 xf11 xf12 xf13) (cwV 0 htG (wG_V wd_88 wd_90 wd_0 wd_22 wd_91) rfl rfl rfl (by decide +kernel) ⟨Nat.le_of_ble_eq_true rfl, Nat.le_of_ble_eq_true rfl⟩) ⟨fun a U g mk q => by obtain ⟨q0, qP, qK⟩ := q; exact ⟨q0, qP, va_K.moved (u := U) (U := U.calling g mk a) (Vm.Alike.refl U.vm) qK⟩, va_recv hK hP (ci := 0) (q0 := 0) rfl rfl, fun U hU hW => ⟨rfl, by rw [hU]; exact hP, va_K.moved hW.alike hK⟩⟩ rfl rfl hl.1 rfl (lv_room (Nat.le_of_ble_eq_true rfl)) dX0_signature_33 ⟨Nat.le_of_ble_eq_true rfl, Nat.le_of_ble_eq_true rfl⟩).run (fun r_1 er_1 => ?_)
    subst er_1
    refine W.widen (k := 1) (n := 6) (Nat.le_of_ble_eq_true rfl) (Nat.le_of_ble_eq_true rfl) ?_
    exact vx_ret (W.iret (v := (fX0_areaSize xf6)) hx hb hr (fun t ht hW => ⟨⟨(fX0_areaSize xf6), (xk1, xk2, xk3, xf3, xf4, xf5, xf6, xf7, xf8, xf9, xf10, xf11, xf12, xf13), rfl, (by rw [fX0_signature, if_pos c_1]), by rw [ht]; exact hP, va_K.moved hW.alike hK, hD⟩, hS.F ht⟩) hS.2.2 dX0_signature_36)
  · rcases Classical.em (p0 = 1) with c_2 | c_2
    · refine lv_tableIn (tgt := 37) (off := 36) hx hb dX0_signature_1 (by rw [c_2]; decide) (by rw [c_2]; decide) (by rw [c_2]; rfl) (by decide) ?_
      refine lv_aload_n hx hb dX0_signature_37 rfl (lv_at hl 0 rfl) ?_
      refine va_get (D := (dC, dI)) (ci := 0) (v := .int xf3) (C := RX0) (T := TX0) (N := 14) hx hb htG inX0 hown hK hP 0 rfl rfl 3 (by decide) (htG _ wd_43) (fun _ h9 => h9) rfl dX0_signature_38 ?_
      refine W.widen (k := 1) (n := 6) (Nat.le_of_ble_eq_true rfl) (Nat.le_of_ble_eq_true rfl) ?_
      exact vx_ret (W.iret (v := xf3) hx hb hr (fun t ht hW => ⟨⟨xf3, (xk1, xk2, xk3, xf3, xf4, xf5, xf6, xf7, xf8, xf9, xf10, xf11, xf12, xf13), rfl, (by rw [fX0_signature, if_neg c_1, if_pos c_2]), by rw [ht]; exact hP, va_K.moved hW.alike hK, hD⟩, hS.F ht⟩) hS.2.2 dX0_signature_41)
    · rcases Classical.em (p0 = 2) with c_3 | c_3
      · refine lv_tableIn (tgt := 42) (off := 41) hx hb dX0_signature_1 (by rw [c_3]; decide) (by rw [c_3]; decide) (by rw [c_3]; rfl) (by decide) ?_
        refine lv_aload_n hx hb dX0_signature_42 rfl (lv_at hl 0 rfl) ?_
        refine vp_callSi (va_runV (As := []) (rest := []) ⟨hx, hb, hml, hown, htG⟩ (mX0_resultPlace l dC dI xh0 xh1 xh2 xh3 xc1 xc2 xc3 xk1 xk2 xk3 xf3 xf4 xf5 xf6 xf7 xf8 xf9 xf10 xf11 xf12 xf13) (cwV 0 htG (wG_V wd_291 wd_293 wd_10 wd_22 wd_294) rfl rfl rfl (by decide +kernel) ⟨Nat.le_of_ble_eq_true rfl, Nat.le_of_ble_eq_true rfl⟩) ⟨fun a U g mk q => by obtain ⟨q0, qP, qK⟩ := q; exact ⟨q0, qP, va_K.moved (u := U) (U := U.calling g mk a) (Vm.Alike.refl U.vm) qK⟩, va_recv hK hP (ci := 0) (q0 := 0) rfl rfl, fun U hU hW => ⟨rfl, by rw [hU]; exact hP, va_K.moved hW.alike hK⟩⟩ rfl rfl hl.1 rfl (lv_room (Nat.le_of_ble_eq_true rfl)) dX0_signature_43 ⟨Nat.le_of_ble_eq_true rfl, Nat.le_of_ble_eq_true rfl⟩).run (fun r_2 er_2 => ?_)
        subst er_2
        refine W.widen (k := 1) (n := 6) (Nat.le_of_ble_eq_true rfl) (Nat.le_of_ble_eq_true rfl) ?_
        exact vx_ret (W.iret (v := (fX0_resultPlace xf4)) hx hb hr (fun t ht hW => ⟨⟨(fX0_resultPlace xf4), (xk1, xk2, xk3, xf3, xf4, xf5, xf6, xf7, xf8, xf9, xf10, xf11, xf12, xf13), rfl, (by rw [fX0_signature, if_neg c_1, if_neg c_2, if_pos c_3]), by rw [ht]; exact hP, va_K.moved hW.alike hK, hD⟩, hS.F ht⟩) hS.2.2 dX0_signature_46)
      · rcases Classical.em (p0 = 3) with c_4 | c_4
        · refine lv_tableIn (tgt := 47) (off := 46) hx hb dX0_signature_1 (by rw [c_4]; decide) (by rw [c_4]; decide) (by rw [c_4]; rfl) (by decide) ?_
          refine lv_aload_n hx hb dX0_signature_47 rfl (lv_at hl 0 rfl) ?_
          refine va_get (D := (dC, dI)) (ci := 0) (v := .int xf6) (C := RX0) (T := TX0) (N := 14) hx hb htG inX0 hown hK hP 0 rfl rfl 6 (by decide) (htG _ wd_46) (fun _ h9 => h9) rfl dX0_signature_48 ?_
          refine W.widen (k := 1) (n := 6) (Nat.le_of_ble_eq_true rfl) (Nat.le_of_ble_eq_true rfl) ?_
          exact vx_ret (W.iret (v := xf6) hx hb hr (fun t ht hW => ⟨⟨xf6, (xk1, xk2, xk3, xf3, xf4, xf5, xf6, xf7, xf8, xf9, xf10, xf11, xf12, xf13), rfl, (by rw [fX0_signature, if_neg c_1, if_neg c_2, if_neg c_3, if_pos c_4]), by rw [ht]; exact hP, va_K.moved hW.alike hK, hD⟩, hS.F ht⟩) hS.2.2 dX0_signature_51)
        · refine lv_tableOut (tgt := 52) hx hb dX0_signature_1 (tab_out0_3 c_1 c_2 c_3 c_4) (by decide) ?_
          obtain ⟨sa, hstr⟩ := hZ.2.2.2.2.2.2.2.2.2.2.1
          exact vx_throwS (own := RX0) (cls := "java/lang/IndexOutOfBoundsException") (names := ["java/lang/RuntimeException", "java/lang/Exception"]) hx hb hl9 hown (by decide +kernel) (by decide +kernel) (htG _ wd_232) (htG _ wd_29) hstr (vx_hat (L := vx_atS RX0 95 "java/lang/IndexOutOfBoundsException" ["java/lang/RuntimeException", "java/lang/Exception"]) (B := [.castable "java/lang/IndexOutOfBoundsException" "java/lang/IndexOutOfBoundsException", .declares ⟨"java/lang/RuntimeException", "<init>", "(Ljava/lang/String;)V"⟩, .declares ⟨"java/lang/Exception", "<init>", "(Ljava/lang/String;)V"⟩, .declares ⟨"java/lang/Throwable", "<init>", "(Ljava/lang/String;)V"⟩]) (fun w hw => htG w (xg_95 w hw)) (by decide +kernel) (vx_c (va_Nw.use rfl hZ.2.2.1.2.2.2.2.2) (vx_c (va_Nw.use rfl hZ.2.2.1.2.1) (vx_c (va_Nw.use rfl hZ.2.2.1.2.2.1) (vx_c (va_Nw.use rfl hZ.2.2.1.2.2.2.1) (vx_n)))))) (by decide +kernel) hZ.1 hZ.2.1 hS (hl.1.trans hml.symm) dX0_signature_52 dX0_signature_55 dX0_signature_56 dX0_signature_58 dX0_signature_61 (fun x hx => (hEx x hx).elim) (Nat.le_of_ble_eq_true rfl) (Nat.le_of_ble_eq_true rfl) (Nat.le_of_ble_eq_true rfl) (Nat.le_of_ble_eq_true rfl) hlocks (fun t ha hsz hk => ⟨(), trivial, ⟨⟨rfl, (by rw [fX0_signature, if_neg c_1, if_neg c_2, if_neg c_3, if_neg c_4])⟩, hP.kept (fun k q hq => hk q.1 (hP k q hq).lt), va_K.moved ha hK, hD⟩, Nat.le_trans hS.1 hsz, fun q h1 h2 => (hk q (Nat.lt_of_lt_of_le h1 hS.1)).trans (hS.2.1 q h1 h2)⟩) hS.2.2 (Nat.le_of_ble_eq_true rfl) (Nat.le_of_ble_eq_true rfl)

def fX0_about (xk1 xk2 xk3 : Nat → Int32) (xf3 xf4 xf5 xf6 xf7 xf8 xf9 xf10 xf11 xf12 xf13 : Int32) (p0 p1 : Int32) : Int32 × Int32 × xWS :=
  if (fX0_isArgument xf3 xf4 p0) = 0 then (1, 0, (xk1, xk2, xk3, xf3, xf4, xf5, xf6, xf7, xf8, xf9, xf10, xf11, xf12, xf13))
  else if p1 = 0 then (0, (fX0_homeAt xk2 xf3 p0), (xk1, xk2, xk3, xf3, xf4, xf5, xf6, xf7, xf8, xf9, xf10, xf11, xf12, xf13))
    else if p1 = 1 then (0, (fX0_bytesAt xk3 xf3 p0), (xk1, xk2, xk3, xf3, xf4, xf5, xf6, xf7, xf8, xf9, xf10, xf11, xf12, xf13))
      else if p1 = 2 then (0, (fX0_wordsAt xk3 xf3 p0), (xk1, xk2, xk3, xf3, xf4, xf5, xf6, xf7, xf8, xf9, xf10, xf11, xf12, xf13))
        else (1, 0, (xk1, xk2, xk3, xf3, xf4, xf5, xf6, xf7, xf8, xf9, xf10, xf11, xf12, xf13))

abbrev wsX0_about : List Cond := .code yX0_about cX0_about 3 (some .int) :: wG
set_option maxHeartbeats 4000000 in
set_option maxRecDepth 100000 in
theorem mX0_about (l : Launch) (hl9 : l.stackTraces = false) (dC : Nat → ClassId) (dI : Nat → Nat → Nat) (xh0 xh1 xh2 xh3 : Nat) (sz : Nat) (xc1 xc2 xc3 : ClassId) (xk1 xk2 xk3 : Nat → Int32) (xf3 xf4 xf5 xf6 xf7 xf8 xf9 xf10 xf11 xf12 xf13 : Int32) (p0 p1 : Int32)  : vx_Met l yX0_about wsX0_about ({ frames := 6, cells := 1, slots := 6, locals := 82 }) (va_Pc [.ref xh0, .int p0, .int p1] (fun U => U.heap.size = sz ∧ va_P (dC, dI) vwCl (xW xh0 xh1 xh2 xh3 xc1 xc2 xc3 xk1 xk2 xk3 xf3 xf4 xf5 xf6 xf7 xf8 xf9 xf10 xf11 xf12 xf13) U.heap ∧ va_K (dC, dI) vwCl [(xc1, .int), (xc2, .int), (xc3, .int)] U ∧ va_D (fun _ => True) (xW xh0 xh1 xh2 xh3 xc1 xc2 xc3 xk1 xk2 xk3 xf3 xf4 xf5 xf6 xf7 xf8 xf9 xf10 xf11 xf12 xf13) ∧ xZ (va_A (xW xh0 xh1 xh2 xh3 xc1 xc2 xc3 xk1 xk2 xk3 xf3 xf4 xf5 xf6 xf7 xf8 xf9 xf10 xf11 xf12 xf13) sz) U U.heap)) (va_Qi (fun r u => (0, r, u) = fX0_about xk1 xk2 xk3 xf3 xf4 xf5 xf6 xf7 xf8 xf9 xf10 xf11 xf12 xf13 p0 p1) (xWB dC dI (va_A (xW xh0 xh1 xh2 xh3 xc1 xc2 xc3 xk1 xk2 xk3 xf3 xf4 xf5 xf6 xf7 xf8 xf9 xf10 xf11 xf12 xf13) sz) xh0 xh1 xh2 xh3 xc1 xc2 xc3) (va_A (xW xh0 xh1 xh2 xh3 xc1 xc2 xc3 xk1 xk2 xk3 xf3 xf4 xf5 xf6 xf7 xf8 xf9 xf10 xf11 xf12 xf13) sz)) (vx_X (fun _ : Unit => True) (fun E _ t => ((E = "java/lang/IndexOutOfBoundsException" ∧ fX0_about xk1 xk2 xk3 xf3 xf4 xf5 xf6 xf7 xf8 xf9 xf10 xf11 xf12 xf13 p0 p1 = (1, 0, (xk1, xk2, xk3, xf3, xf4, xf5, xf6, xf7, xf8, xf9, xf10, xf11, xf12, xf13)))) ∧ xWB dC dI (va_A (xW xh0 xh1 xh2 xh3 xc1 xc2 xc3 xk1 xk2 xk3 xf3 xf4 xf5 xf6 xf7 xf8 xf9 xf10 xf11 xf12 xf13) sz) xh0 xh1 xh2 xh3 xc1 xc2 xc3 (xk1, xk2, xk3, xf3, xf4, xf5, xf6, xf7, xf8, xf9, xf10, xf11, xf12, xf13) t) (va_A (xW xh0 xh1 xh2 xh3 xc1 xc2 xc3 xk1 xk2 xk3 xf3 xf4 xf5 xf6 xf7 xf8 xf9 xf10 xf11 xf12 xf13) sz)) 1 6 (va_A (xW xh0 xh1 xh2 xh3 xc1 xc2 xc3 xk1 xk2 xk3 xf3 xf4 xf5 xf6 xf7 xf8 xf9 xf10 xf11 xf12 xf13) sz) := by
  refine vx_ofW (cc := cX0_about) (maxL := 3) (ret := (some .int)) (by decide) rfl ?_
  intro p e s m args below meth c s₁ B hml hEx hv
  obtain ⟨rfl, hsz, hP, hK, hD0, hZ⟩ := hv
  have hx := B.exec
  have hb := B.bytes
  have hr := B.returns
  have hts := atoms_spec (ws := wsX0_about) B.pre
  have htG := fun (w : Cond) (h : w ∈ wG) => hts w (List.mem_cons_of_mem _ h)
  have hown : s.vm.findClass RX0 = some m.cls := findClass_of_methodNamed B.named
  have hlocks := B.notSynchronized
  subst hsz
  have hD := hD0.self (sz := s.heap.size)
  generalize hAe : va_A (xW xh0 xh1 xh2 xh3 xc1 xc2 xc3 xk1 xk2 xk3 xf3 xf4 xf5 xf6 xf7 xf8 xf9 xf10 xf11 xf12 xf13) s.heap.size = A at hD hZ ⊢
  have hA : ∀ q : Nat, s.heap.size ≤ q → A q := fun q h => by rw [← hAe]; exact Or.inr h
  have hS : va_S A s.heap s.heap [] := va_S.rf
  have hP : va_P (dC, dI) vwCl (xW xh0 xh1 xh2 xh3 xc1 xc2 xc3 xk1 xk2 xk3 xf3 xf4 xf5 xf6 xf7 xf8 xf9 xf10 xf11 xf12 xf13) s.heap := hP
  have hl := lv_entry ([.ref xh0, .int p0, .int p1]) (n := 3) (Nat.le_of_ble_eq_true rfl)
  rw [lg_entry_eq]
  generalize (lg_sl ([.ref xh0, .int p0, .int p1]) ++ List.replicate (3 - (lg_sl ([.ref xh0, .int p0, .int p1])).length) Slot.unset).toArray = ls at hl ⊢
  have hl : lv_has ls 3 [(0, .ref xh0), (1, .int p0), (2, .int p1)] := hl
  refine lv_aload_n hx hb dX0_about_0 rfl (lv_at hl 0 rfl) ?_
  refine lv_iload_n hx hb dX0_about_1 rfl (lv_at hl 1 rfl) ?_
  refine vp_callSi (va_runV (As := [.int p0]) (rest := []) ⟨hx, hb, hml, hown, htG⟩ (mX0_isArgument l dC dI xh0 xh1 xh2 xh3 xc1 xc2 xc3 xk1 xk2 xk3 xf3 xf4 xf5 xf6 xf7 xf8 xf9 xf10 xf11 xf12 xf13 p0) (cwV 1 htG (wG_V wd_224 wd_226 wd_2 wd_22 wd_227) rfl rfl rfl (by decide +kernel) ⟨Nat.le_of_ble_eq_true rfl, Nat.le_of_ble_eq_true rfl⟩) ⟨fun a U g mk q => by obtain ⟨q0, qP, qK⟩ := q; exact ⟨q0, qP, va_K.moved (u := U) (U := U.calling g mk a) (Vm.Alike.refl U.vm) qK⟩, va_recv hK hP (ci := 0) (q0 := 0) rfl rfl, fun U hU hW => ⟨rfl, by rw [hU]; exact hP, va_K.moved hW.alike hK⟩⟩ rfl rfl hl.1 rfl (lv_room (Nat.le_of_ble_eq_true rfl)) dX0_about_2 ⟨Nat.le_of_ble_eq_true rfl, Nat.le_of_ble_eq_true rfl⟩).run (fun r_1 er_1 => ?_)
  subst er_1
  refine lv_if_ne (tgt := 18) hx hb dX0_about_5 (by decide) (fun c_1 => ?_) (fun c_1 => ?_)
  · refine lv_iload_n hx hb dX0_about_18 rfl (lv_at hl 2 rfl) ?_
    -- a switch of p1
    rcases Classical.em (p1 = 0) with c_2 | c_2
    · refine lv_tableIn (tgt := 44) (off := 25) hx hb dX0_about_19 (by rw [c_2]; decide) (by rw [c_2]; decide) (by rw [c_2]; rfl) (by decide) ?_
      refine lv_aload_n hx hb dX0_about_44 rfl (lv_at hl 0 rfl) ?_
      refine lv_iload_n hx hb dX0_about_45 rfl (lv_at hl 1 rfl) ?_
      refine vp_callSi (va_runV (As := [.int p0]) (rest := []) ⟨hx, hb, hml, hown, htG⟩ (mX0_homeAt l dC dI xh0 xh1 xh2 xh3 xc1 xc2 xc3 xk1 xk2 xk3 xf3 xf4 xf5 xf6 xf7 xf8 xf9 xf10 xf11 xf12 xf13 p0) (cwV 1 htG (wG_V wd_269 wd_271 wd_9 wd_22 wd_272) rfl rfl rfl (by decide +kernel) ⟨Nat.le_of_ble_eq_true rfl, Nat.le_of_ble_eq_true rfl⟩) ⟨fun a U g mk q => by obtain ⟨q0, qP, qK⟩ := q; exact ⟨q0, qP, va_K.moved (u := U) (U := U.calling g mk a) (Vm.Alike.refl U.vm) qK⟩, va_recv hK hP (ci := 0) (q0 := 0) rfl rfl, fun U hU hW => ⟨rfl, by rw [hU]; exact hP, va_K.moved hW.alike hK⟩⟩ rfl rfl hl.1 rfl (lv_room (Nat.le_of_ble_eq_true rfl)) dX0_about_46 ⟨Nat.le_of_ble_eq_true rfl, Nat.le_of_ble_eq_true rfl⟩).run (fun r_2 er_2 => ?_)
      subst er_2
      refine W.widen (k := 1) (n := 6) (Nat.le_of_ble_eq_true rfl) (Nat.le_of_ble_eq_true rfl) ?_
      exact vx_ret (W.iret (v := (fX0_homeAt xk2 xf3 p0)) hx hb hr (fun t ht hW => ⟨⟨(fX0_homeAt xk2 xf3 p0), (xk1, xk2, xk3, xf3, xf4, xf5, xf6, xf7, xf8, xf9, xf10, xf11, xf12, xf13), rfl, (by rw [fX0_about, if_neg c_1, if_pos c_2]), by rw [ht]; exact hP, va_K.moved hW.alike hK, hD⟩, hS.F ht⟩) hS.2.2 dX0_about_49)
    · rcases Classical.em (p1 = 1) with c_3 | c_3
      · refine lv_tableIn (tgt := 50) (off := 31) hx hb dX0_about_19 (by rw [c_3]; decide) (by rw [c_3]; decide) (by rw [c_3]; rfl) (by decide) ?_
        refine lv_aload_n hx hb dX0_about_50 rfl (lv_at hl 0 rfl) ?_
        refine lv_iload_n hx hb dX0_about_51 rfl (lv_at hl 1 rfl) ?_
        refine vp_callSi (va_runV (As := [.int p0]) (rest := []) ⟨hx, hb, hml, hown, htG⟩ (mX0_bytesAt l dC dI xh0 xh1 xh2 xh3 xc1 xc2 xc3 xk1 xk2 xk3 xf3 xf4 xf5 xf6 xf7 xf8 xf9 xf10 xf11 xf12 xf13 p0) (cwV 1 htG (wG_V wd_252 wd_254 wd_5 wd_22 wd_255) rfl rfl rfl (by decide +kernel) ⟨Nat.le_of_ble_eq_true rfl, Nat.le_of_ble_eq_true rfl⟩) ⟨fun a U g mk q => by obtain ⟨q0, qP, qK⟩ := q; exact ⟨q0, qP, va_K.moved (u := U) (U := U.calling g mk a) (Vm.Alike.refl U.vm) qK⟩, va_recv hK hP (ci := 0) (q0 := 0) rfl rfl, fun U hU hW => ⟨rfl, by rw [hU]; exact hP, va_K.moved hW.alike hK⟩⟩ rfl rfl hl.1 rfl (lv_room (Nat.le_of_ble_eq_true rfl)) dX0_about_52 ⟨Nat.le_of_ble_eq_true rfl, Nat.le_of_ble_eq_true rfl⟩).run (fun r_3 er_3 => ?_)
        subst er_3
        refine W.widen (k := 1) (n := 6) (Nat.le_of_ble_eq_true rfl) (Nat.le_of_ble_eq_true rfl) ?_
        exact vx_ret (W.iret (v := (fX0_bytesAt xk3 xf3 p0)) hx hb hr (fun t ht hW => ⟨⟨(fX0_bytesAt xk3 xf3 p0), (xk1, xk2, xk3, xf3, xf4, xf5, xf6, xf7, xf8, xf9, xf10, xf11, xf12, xf13), rfl, (by rw [fX0_about, if_neg c_1, if_neg c_2, if_pos c_3]), by rw [ht]; exact hP, va_K.moved hW.alike hK, hD⟩, hS.F ht⟩) hS.2.2 dX0_about_55)
      · rcases Classical.em (p1 = 2) with c_4 | c_4
        · refine lv_tableIn (tgt := 56) (off := 37) hx hb dX0_about_19 (by rw [c_4]; decide) (by rw [c_4]; decide) (by rw [c_4]; rfl) (by decide) ?_
          refine lv_aload_n hx hb dX0_about_56 rfl (lv_at hl 0 rfl) ?_
          refine lv_iload_n hx hb dX0_about_57 rfl (lv_at hl 1 rfl) ?_
          refine vp_callSi (va_runV (As := [.int p0]) (rest := []) ⟨hx, hb, hml, hown, htG⟩ (mX0_wordsAt l dC dI xh0 xh1 xh2 xh3 xc1 xc2 xc3 xk1 xk2 xk3 xf3 xf4 xf5 xf6 xf7 xf8 xf9 xf10 xf11 xf12 xf13 p0) (cwV 1 htG (wG_V wd_248 wd_250 wd_4 wd_22 wd_251) rfl rfl rfl (by decide +kernel) ⟨Nat.le_of_ble_eq_true rfl, Nat.le_of_ble_eq_true rfl⟩) ⟨fun a U g mk q => by obtain ⟨q0, qP, qK⟩ := q; exact ⟨q0, qP, va_K.moved (u := U) (U := U.calling g mk a) (Vm.Alike.refl U.vm) qK⟩, va_recv hK hP (ci := 0) (q0 := 0) rfl rfl, fun U hU hW => ⟨rfl, by rw [hU]; exact hP, va_K.moved hW.alike hK⟩⟩ rfl rfl hl.1 rfl (lv_room (Nat.le_of_ble_eq_true rfl)) dX0_about_58 ⟨Nat.le_of_ble_eq_true rfl, Nat.le_of_ble_eq_true rfl⟩).run (fun r_4 er_4 => ?_)
          subst er_4
          refine W.widen (k := 1) (n := 6) (Nat.le_of_ble_eq_true rfl) (Nat.le_of_ble_eq_true rfl) ?_
          exact vx_ret (W.iret (v := (fX0_wordsAt xk3 xf3 p0)) hx hb hr (fun t ht hW => ⟨⟨(fX0_wordsAt xk3 xf3 p0), (xk1, xk2, xk3, xf3, xf4, xf5, xf6, xf7, xf8, xf9, xf10, xf11, xf12, xf13), rfl, (by rw [fX0_about, if_neg c_1, if_neg c_2, if_neg c_3, if_pos c_4]), by rw [ht]; exact hP, va_K.moved hW.alike hK, hD⟩, hS.F ht⟩) hS.2.2 dX0_about_61)
        · refine lv_tableOut (tgt := 62) hx hb dX0_about_19 (tab_out0_2 c_2 c_3 c_4) (by decide) ?_
          obtain ⟨sa, hstr⟩ := hZ.2.2.2.2.2.2.2.2.2.2.1
          exact vx_throwS (own := RX0) (cls := "java/lang/IndexOutOfBoundsException") (names := ["java/lang/RuntimeException", "java/lang/Exception"]) hx hb hl9 hown (by decide +kernel) (by decide +kernel) (htG _ wd_232) (htG _ wd_29) hstr (vx_hat (L := vx_atS RX0 95 "java/lang/IndexOutOfBoundsException" ["java/lang/RuntimeException", "java/lang/Exception"]) (B := [.castable "java/lang/IndexOutOfBoundsException" "java/lang/IndexOutOfBoundsException", .declares ⟨"java/lang/RuntimeException", "<init>", "(Ljava/lang/String;)V"⟩, .declares ⟨"java/lang/Exception", "<init>", "(Ljava/lang/String;)V"⟩, .declares ⟨"java/lang/Throwable", "<init>", "(Ljava/lang/String;)V"⟩]) (fun w hw => htG w (xg_95 w hw)) (by decide +kernel) (vx_c (va_Nw.use rfl hZ.2.2.1.2.2.2.2.2) (vx_c (va_Nw.use rfl hZ.2.2.1.2.1) (vx_c (va_Nw.use rfl hZ.2.2.1.2.2.1) (vx_c (va_Nw.use rfl hZ.2.2.1.2.2.2.1) (vx_n)))))) (by decide +kernel) hZ.1 hZ.2.1 hS (hl.1.trans hml.symm) dX0_about_62 dX0_about_65 dX0_about_66 dX0_about_68 dX0_about_71 (fun x hx => (hEx x hx).elim) (Nat.le_of_ble_eq_true rfl) (Nat.le_of_ble_eq_true rfl) (Nat.le_of_ble_eq_true rfl) (Nat.le_of_ble_eq_true rfl) hlocks (fun t ha hsz hk => ⟨(), trivial, ⟨⟨rfl, (by rw [fX0_about, if_neg c_1, if_neg c_2, if_neg c_3, if_neg c_4])⟩, hP.kept (fun k q hq => hk q.1 (hP k q hq).lt), va_K.moved ha hK, hD⟩, Nat.le_trans hS.1 hsz, fun q h1 h2 => (hk q (Nat.lt_of_lt_of_le h1 hS.1)).trans (hS.2.1 q h1 h2)⟩) hS.2.2 (Nat.le_of_ble_eq_true rfl) (Nat.le_of_ble_eq_true rfl)
  · obtain ⟨sa, hstr⟩ := hZ.2.2.2.2.2.2.2.2.1
    exact vx_throwS (own := RX0) (cls := "java/lang/IndexOutOfBoundsException") (names := ["java/lang/RuntimeException", "java/lang/Exception"]) hx hb hl9 hown (by decide +kernel) (by decide +kernel) (htG _ wd_232) (htG _ wd_29) hstr (vx_hat (L := vx_atS RX0 95 "java/lang/IndexOutOfBoundsException" ["java/lang/RuntimeException", "java/lang/Exception"]) (B := [.castable "java/lang/IndexOutOfBoundsException" "java/lang/IndexOutOfBoundsException", .declares ⟨"java/lang/RuntimeException", "<init>", "(Ljava/lang/String;)V"⟩, .declares ⟨"java/lang/Exception", "<init>", "(Ljava/lang/String;)V"⟩, .declares ⟨"java/lang/Throwable", "<init>", "(Ljava/lang/String;)V"⟩]) (fun w hw => htG w (xg_95 w hw)) (by decide +kernel) (vx_c (va_Nw.use rfl hZ.2.2.1.2.2.2.2.2) (vx_c (va_Nw.use rfl hZ.2.2.1.2.1) (vx_c (va_Nw.use rfl hZ.2.2.1.2.2.1) (vx_c (va_Nw.use rfl hZ.2.2.1.2.2.2.1) (vx_n)))))) (by decide +kernel) hZ.1 hZ.2.1 hS (hl.1.trans hml.symm) dX0_about_8 dX0_about_11 dX0_about_12 dX0_about_14 dX0_about_17 (fun x hx => (hEx x hx).elim) (Nat.le_of_ble_eq_true rfl) (Nat.le_of_ble_eq_true rfl) (Nat.le_of_ble_eq_true rfl) (Nat.le_of_ble_eq_true rfl) hlocks (fun t ha hsz hk => ⟨(), trivial, ⟨⟨rfl, (by rw [fX0_about, if_pos c_1])⟩, hP.kept (fun k q hq => hk q.1 (hP k q hq).lt), va_K.moved ha hK, hD⟩, Nat.le_trans hS.1 hsz, fun q h1 h2 => (hk q (Nat.lt_of_lt_of_le h1 hS.1)).trans (hS.2.1 q h1 h2)⟩) hS.2.2 (Nat.le_of_ble_eq_true rfl) (Nat.le_of_ble_eq_true rfl)

def fX0_place (xk1 xk2 xk3 : Nat → Int32) (xf3 xf4 xf5 xf6 xf7 xf8 xf9 xf10 xf11 xf12 xf13 : Int32) (p0 p1 : Int32) : Int32 × Int32 × xWS :=
  if p1 < 0 then (1, 0, (xk1, xk2, xk3, xf3, xf4, xf5, xf6, xf7, xf8, xf9, xf10, xf11, xf12, xf13))
  else if p1 < 32 then (if p0 = 0 then (0, xf9, (xk1, xk2, xk3, xf3, xf4, xf5, xf6, xf7, xf8, xf9, xf10, xf11, xf12, xf13))
      else if p0 = 1 then (0, (fX0_savedPlace xf12 p1 xf11 4), (xk1, xk2, xk3, xf3, xf4, xf5, xf6, xf7, xf8, xf9, xf10, xf11, xf12, xf13))
        else if p0 = 2 then (0, (fX0_savedPlace xf13 p1 xf10 8), (xk1, xk2, xk3, xf3, xf4, xf5, xf6, xf7, xf8, xf9, xf10, xf11, xf12, xf13))
          else (1, 0, (xk1, xk2, xk3, xf3, xf4, xf5, xf6, xf7, xf8, xf9, xf10, xf11, xf12, xf13)))
    else (1, 0, (xk1, xk2, xk3, xf3, xf4, xf5, xf6, xf7, xf8, xf9, xf10, xf11, xf12, xf13))

abbrev wsX0_place : List Cond := .code yX0_place cX0_place 3 (some .int) :: wG
set_option maxHeartbeats 4000000 in
set_option maxRecDepth 100000 in
theorem mX0_place (l : Launch) (hl9 : l.stackTraces = false) (dC : Nat → ClassId) (dI : Nat → Nat → Nat) (xh0 xh1 xh2 xh3 : Nat) (sz : Nat) (xc1 xc2 xc3 : ClassId) (xk1 xk2 xk3 : Nat → Int32) (xf3 xf4 xf5 xf6 xf7 xf8 xf9 xf10 xf11 xf12 xf13 : Int32) (p0 p1 : Int32)  : vx_Met l yX0_place wsX0_place ({ frames := 6, cells := 1, slots := 6, locals := 82 }) (va_Pc [.ref xh0, .int p0, .int p1] (fun U => U.heap.size = sz ∧ va_P (dC, dI) vwCl (xW xh0 xh1 xh2 xh3 xc1 xc2 xc3 xk1 xk2 xk3 xf3 xf4 xf5 xf6 xf7 xf8 xf9 xf10 xf11 xf12 xf13) U.heap ∧ va_K (dC, dI) vwCl [(xc1, .int), (xc2, .int), (xc3, .int)] U ∧ va_D (fun _ => True) (xW xh0 xh1 xh2 xh3 xc1 xc2 xc3 xk1 xk2 xk3 xf3 xf4 xf5 xf6 xf7 xf8 xf9 xf10 xf11 xf12 xf13) ∧ xZ (va_A (xW xh0 xh1 xh2 xh3 xc1 xc2 xc3 xk1 xk2 xk3 xf3 xf4 xf5 xf6 xf7 xf8 xf9 xf10 xf11 xf12 xf13) sz) U U.heap)) (va_Qi (fun r u => (0, r, u) = fX0_place xk1 xk2 xk3 xf3 xf4 xf5 xf6 xf7 xf8 xf9 xf10 xf11 xf12 xf13 p0 p1) (xWB dC dI (va_A (xW xh0 xh1 xh2 xh3 xc1 xc2 xc3 xk1 xk2 xk3 xf3 xf4 xf5 xf6 xf7 xf8 xf9 xf10 xf11 xf12 xf13) sz) xh0 xh1 xh2 xh3 xc1 xc2 xc3) (va_A (xW xh0 xh1 xh2 xh3 xc1 xc2 xc3 xk1 xk2 xk3 xf3 xf4 xf5 xf6 xf7 xf8 xf9 xf10 xf11 xf12 xf13) sz)) (vx_X (fun _ : Unit => True) (fun E _ t => ((E = "java/lang/IndexOutOfBoundsException" ∧ fX0_place xk1 xk2 xk3 xf3 xf4 xf5 xf6 xf7 xf8 xf9 xf10 xf11 xf12 xf13 p0 p1 = (1, 0, (xk1, xk2, xk3, xf3, xf4, xf5, xf6, xf7, xf8, xf9, xf10, xf11, xf12, xf13)))) ∧ xWB dC dI (va_A (xW xh0 xh1 xh2 xh3 xc1 xc2 xc3 xk1 xk2 xk3 xf3 xf4 xf5 xf6 xf7 xf8 xf9 xf10 xf11 xf12 xf13) sz) xh0 xh1 xh2 xh3 xc1 xc2 xc3 (xk1, xk2, xk3, xf3, xf4, xf5, xf6, xf7, xf8, xf9, xf10, xf11, xf12, xf13) t) (va_A (xW xh0 xh1 xh2 xh3 xc1 xc2 xc3 xk1 xk2 xk3 xf3 xf4 xf5 xf6 xf7 xf8 xf9 xf10 xf11 xf12 xf13) sz)) 1 6 (va_A (xW xh0 xh1 xh2 xh3 xc1 xc2 xc3 xk1 xk2 xk3 xf3 xf4 xf5 xf6 xf7 xf8 xf9 xf10 xf11 xf12 xf13) sz) := by
  refine vx_ofW (cc := cX0_place) (maxL := 3) (ret := (some .int)) (by decide) rfl ?_
  intro p e s m args below meth c s₁ B hml hEx hv
  obtain ⟨rfl, hsz, hP, hK, hD0, hZ⟩ := hv
  have hx := B.exec
  have hb := B.bytes
  have hr := B.returns
  have hts := atoms_spec (ws := wsX0_place) B.pre
  have htG := fun (w : Cond) (h : w ∈ wG) => hts w (List.mem_cons_of_mem _ h)
  have hown : s.vm.findClass RX0 = some m.cls := findClass_of_methodNamed B.named
  have hlocks := B.notSynchronized
  subst hsz
  have hD := hD0.self (sz := s.heap.size)
  generalize hAe : va_A (xW xh0 xh1 xh2 xh3 xc1 xc2 xc3 xk1 xk2 xk3 xf3 xf4 xf5 xf6 xf7 xf8 xf9 xf10 xf11 xf12 xf13) s.heap.size = A at hD hZ ⊢
  have hA : ∀ q : Nat, s.heap.size ≤ q → A q := fun q h => by rw [← hAe]; exact Or.inr h
  have hS : va_S A s.heap s.heap [] := va_S.rf
  have hP : va_P (dC, dI) vwCl (xW xh0 xh1 xh2 xh3 xc1 xc2 xc3 xk1 xk2 xk3 xf3 xf4 xf5 xf6 xf7 xf8 xf9 xf10 xf11 xf12 xf13) s.heap := hP
  have hl := lv_entry ([.ref xh0, .int p0, .int p1]) (n := 3) (Nat.le_of_ble_eq_true rfl)
  rw [lg_entry_eq]
  generalize (lg_sl ([.ref xh0, .int p0, .int p1]) ++ List.replicate (3 - (lg_sl ([.ref xh0, .int p0, .int p1])).length) Slot.unset).toArray = ls at hl ⊢
  have hl : lv_has ls 3 [(0, .ref xh0), (1, .int p0), (2, .int p1)] := hl
  refine lv_iload_n hx hb dX0_place_0 rfl (lv_at hl 2 rfl) ?_
  refine lv_if_lt (tgt := 10) hx hb dX0_place_1 (by decide) (fun c_1 => ?_) (fun c_1 => ?_)
  · obtain ⟨sa, hstr⟩ := hZ.2.2.2.2.2.2.2.2.2.2.2.2.2.2
    exact vx_throwS (own := RX0) (cls := "java/lang/IndexOutOfBoundsException") (names := ["java/lang/RuntimeException", "java/lang/Exception"]) hx hb hl9 hown (by decide +kernel) (by decide +kernel) (htG _ wd_232) (htG _ wd_29) hstr (vx_hat (L := vx_atS RX0 95 "java/lang/IndexOutOfBoundsException" ["java/lang/RuntimeException", "java/lang/Exception"]) (B := [.castable "java/lang/IndexOutOfBoundsException" "java/lang/IndexOutOfBoundsException", .declares ⟨"java/lang/RuntimeException", "<init>", "(Ljava/lang/String;)V"⟩, .declares ⟨"java/lang/Exception", "<init>", "(Ljava/lang/String;)V"⟩, .declares ⟨"java/lang/Throwable", "<init>", "(Ljava/lang/String;)V"⟩]) (fun w hw => htG w (xg_95 w hw)) (by decide +kernel) (vx_c (va_Nw.use rfl hZ.2.2.1.2.2.2.2.2) (vx_c (va_Nw.use rfl hZ.2.2.1.2.1) (vx_c (va_Nw.use rfl hZ.2.2.1.2.2.1) (vx_c (va_Nw.use rfl hZ.2.2.1.2.2.2.1) (vx_n)))))) (by decide +kernel) hZ.1 hZ.2.1 hS (hl.1.trans hml.symm) dX0_place_10 dX0_place_13 dX0_place_14 dX0_place_16 dX0_place_19 (fun x hx => (hEx x hx).elim) (Nat.le_of_ble_eq_true rfl) (Nat.le_of_ble_eq_true rfl) (Nat.le_of_ble_eq_true rfl) (Nat.le_of_ble_eq_true rfl) hlocks (fun t ha hsz hk => ⟨(), trivial, ⟨⟨rfl, (by rw [fX0_place, if_pos c_1])⟩, hP.kept (fun k q hq => hk q.1 (hP k q hq).lt), va_K.moved ha hK, hD⟩, Nat.le_trans hS.1 hsz, fun q h1 h2 => (hk q (Nat.lt_of_lt_of_le h1 hS.1)).trans (hS.2.1 q h1 h2)⟩) hS.2.2 (Nat.le_of_ble_eq_true rfl) (Nat.le_of_ble_eq_true rfl)
  · refine lv_iload_n hx hb dX0_place_4 rfl (lv_at hl 2 rfl) ?_
    refine lv_bipush (v := 32) hx hb dX0_place_5 (by decide) ?_
    refine lv_icmp_lt (tgt := 20) hx hb dX0_place_7 (by decide) (fun c_2 => ?_) (fun c_2 => ?_)
    · refine lv_iload_n hx hb dX0_place_20 rfl (lv_at hl 1 rfl) ?_
      -- a switch of p0
      rcases Classical.em (p0 = 0) with c_3 | c_3
      · refine lv_tableIn (tgt := 48) (off := 27) hx hb dX0_place_21 (by rw [c_3]; decide) (by rw [c_3]; decide) (by rw [c_3]; rfl) (by decide) ?_
        refine lv_aload_n hx hb dX0_place_48 rfl (lv_at hl 0 rfl) ?_
        refine va_get (D := (dC, dI)) (ci := 0) (v := .int xf9) (C := RX0) (T := TX0) (N := 14) hx hb htG inX0 hown hK hP 0 rfl rfl 9 (by decide) (htG _ wd_49) (fun _ h9 => h9) rfl dX0_place_49 ?_
        refine W.widen (k := 1) (n := 6) (Nat.le_of_ble_eq_true rfl) (Nat.le_of_ble_eq_true rfl) ?_
        exact vx_ret (W.iret (v := xf9) hx hb hr (fun t ht hW => ⟨⟨xf9, (xk1, xk2, xk3, xf3, xf4, xf5, xf6, xf7, xf8, xf9, xf10, xf11, xf12, xf13), rfl, (by rw [fX0_place, if_neg c_1, if_pos c_2, if_pos c_3]), by rw [ht]; exact hP, va_K.moved hW.alike hK, hD⟩, hS.F ht⟩) hS.2.2 dX0_place_52)
      · rcases Classical.em (p0 = 1) with c_4 | c_4
        · refine lv_tableIn (tgt := 53) (off := 32) hx hb dX0_place_21 (by rw [c_4]; decide) (by rw [c_4]; decide) (by rw [c_4]; rfl) (by decide) ?_
          refine lv_aload_n hx hb dX0_place_53 rfl (lv_at hl 0 rfl) ?_
          refine va_get (D := (dC, dI)) (ci := 0) (v := .int xf12) (C := RX0) (T := TX0) (N := 14) hx hb htG inX0 hown hK hP 0 rfl rfl 12 (by decide) (htG _ wd_52) (fun _ h9 => h9) rfl dX0_place_54 ?_
          refine lv_iload_n hx hb dX0_place_57 rfl (lv_at hl 2 rfl) ?_
          refine lv_aload_n hx hb dX0_place_58 rfl (lv_at hl 0 rfl) ?_
          refine va_get (D := (dC, dI)) (ci := 0) (v := .int xf11) (C := RX0) (T := TX0) (N := 14) hx hb htG inX0 hown hK hP 0 rfl rfl 11 (by decide) (htG _ wd_51) (fun _ h9 => h9) rfl dX0_place_59 ?_
          refine lv_iconst (v := 4) hx hb dX0_place_62 (by decide) ?_
          refine vp_callSi (va_runS (As := [.int xf12, .int p1, .int xf11, .int 4]) (rest := []) ⟨hx, hb, hml, hown, htG⟩ (mX0_savedPlace l xf12 p1 xf11 4) (va_cwS 4 htG (wG_S wd_322 wd_323 wd_22 wd_324) rfl rfl rfl (by decide +kernel) ⟨Nat.le_of_ble_eq_true rfl, Nat.le_of_ble_eq_true rfl⟩) ⟨fun _ _ _ _ q => q, fun U hU hW => ⟨rfl, trivial⟩⟩ rfl rfl hl.1 rfl (lv_room (Nat.le_of_ble_eq_true rfl)) dX0_place_63 ⟨Nat.le_of_ble_eq_true rfl, Nat.le_of_ble_eq_true rfl⟩).run (fun r_1 er_1 => ?_)
          subst er_1
          refine W.widen (k := 1) (n := 6) (Nat.le_of_ble_eq_true rfl) (Nat.le_of_ble_eq_true rfl) ?_
          exact vx_ret (W.iret (v := (fX0_savedPlace xf12 p1 xf11 4)) hx hb hr (fun t ht hW => ⟨⟨(fX0_savedPlace xf12 p1 xf11 4), (xk1, xk2, xk3, xf3, xf4, xf5, xf6, xf7, xf8, xf9, xf10, xf11, xf12, xf13), rfl, (by rw [fX0_place, if_neg c_1, if_pos c_2, if_neg c_3, if_pos c_4]), by rw [ht]; exact hP, va_K.moved hW.alike hK, hD⟩, hS.F ht⟩) hS.2.2 dX0_place_66)
        · rcases Classical.em (p0 = 2) with c_5 | c_5
          · refine lv_tableIn (tgt := 67) (off := 46) hx hb dX0_place_21 (by rw [c_5]; decide) (by rw [c_5]; decide) (by rw [c_5]; rfl) (by decide) ?_
            refine lv_aload_n hx hb dX0_place_67 rfl (lv_at hl 0 rfl) ?_
            refine va_get (D := (dC, dI)) (ci := 0) (v := .int xf13) (C := RX0) (T := TX0) (N := 14) hx hb htG inX0 hown hK hP 0 rfl rfl 13 (by decide) (htG _ wd_53) (fun _ h9 => h9) rfl dX0_place_68 ?_
            refine lv_iload_n hx hb dX0_place_71 rfl (lv_at hl 2 rfl) ?_
            refine lv_aload_n hx hb dX0_place_72 rfl (lv_at hl 0 rfl) ?_
            refine va_get (D := (dC, dI)) (ci := 0) (v := .int xf10) (C := RX0) (T := TX0) (N := 14) hx hb htG inX0 hown hK hP 0 rfl rfl 10 (by decide) (htG _ wd_50) (fun _ h9 => h9) rfl dX0_place_73 ?_
            refine lv_bipush (v := 8) hx hb dX0_place_76 (by decide) ?_
            refine vp_callSi (va_runS (As := [.int xf13, .int p1, .int xf10, .int 8]) (rest := []) ⟨hx, hb, hml, hown, htG⟩ (mX0_savedPlace l xf13 p1 xf10 8) (va_cwS 4 htG (wG_S wd_322 wd_323 wd_22 wd_324) rfl rfl rfl (by decide +kernel) ⟨Nat.le_of_ble_eq_true rfl, Nat.le_of_ble_eq_true rfl⟩) ⟨fun _ _ _ _ q => q, fun U hU hW => ⟨rfl, trivial⟩⟩ rfl rfl hl.1 rfl (lv_room (Nat.le_of_ble_eq_true rfl)) dX0_place_78 ⟨Nat.le_of_ble_eq_true rfl, Nat.le_of_ble_eq_true rfl⟩).run (fun r_2 er_2 => ?_)
            subst er_2
            refine W.widen (k := 1) (n := 6) (Nat.le_of_ble_eq_true rfl) (Nat.le_of_ble_eq_true rfl) ?_
            exact vx_ret (W.iret (v := (fX0_savedPlace xf13 p1 xf10 8)) hx hb hr (fun t ht hW => ⟨⟨(fX0_savedPlace xf13 p1 xf10 8), (xk1, xk2, xk3, xf3, xf4, xf5, xf6, xf7, xf8, xf9, xf10, xf11, xf12, xf13), rfl, (by rw [fX0_place, if_neg c_1, if_pos c_2, if_neg c_3, if_neg c_4, if_pos c_5]), by rw [ht]; exact hP, va_K.moved hW.alike hK, hD⟩, hS.F ht⟩) hS.2.2 dX0_place_81)
          · refine lv_tableOut (tgt := 82) hx hb dX0_place_21 (tab_out0_2 c_3 c_4 c_5) (by decide) ?_
            obtain ⟨sa, hstr⟩ := hZ.2.2.2.2.2.2.2.2.2.2.1
            exact vx_throwS (own := RX0) (cls := "java/lang/IndexOutOfBoundsException") (names := ["java/lang/RuntimeException", "java/lang/Exception"]) hx hb hl9 hown (by decide +kernel) (by decide +kernel) (htG _ wd_232) (htG _ wd_29) hstr (vx_hat (L := vx_atS RX0 95 "java/lang/IndexOutOfBoundsException" ["java/lang/RuntimeException", "java/lang/Exception"]) (B := [.castable "java/lang/IndexOutOfBoundsException" "java/lang/IndexOutOfBoundsException", .declares ⟨"java/lang/RuntimeException", "<init>", "(Ljava/lang/String;)V"⟩, .declares ⟨"java/lang/Exception", "<init>", "(Ljava/lang/String;)V"⟩, .declares ⟨"java/lang/Throwable", "<init>", "(Ljava/lang/String;)V"⟩]) (fun w hw => htG w (xg_95 w hw)) (by decide +kernel) (vx_c (va_Nw.use rfl hZ.2.2.1.2.2.2.2.2) (vx_c (va_Nw.use rfl hZ.2.2.1.2.1) (vx_c (va_Nw.use rfl hZ.2.2.1.2.2.1) (vx_c (va_Nw.use rfl hZ.2.2.1.2.2.2.1) (vx_n)))))) (by decide +kernel) hZ.1 hZ.2.1 hS (hl.1.trans hml.symm) dX0_place_82 dX0_place_85 dX0_place_86 dX0_place_88 dX0_place_91 (fun x hx => (hEx x hx).elim) (Nat.le_of_ble_eq_true rfl) (Nat.le_of_ble_eq_true rfl) (Nat.le_of_ble_eq_true rfl) (Nat.le_of_ble_eq_true rfl) hlocks (fun t ha hsz hk => ⟨(), trivial, ⟨⟨rfl, (by rw [fX0_place, if_neg c_1, if_pos c_2, if_neg c_3, if_neg c_4, if_neg c_5])⟩, hP.kept (fun k q hq => hk q.1 (hP k q hq).lt), va_K.moved ha hK, hD⟩, Nat.le_trans hS.1 hsz, fun q h1 h2 => (hk q (Nat.lt_of_lt_of_le h1 hS.1)).trans (hS.2.1 q h1 h2)⟩) hS.2.2 (Nat.le_of_ble_eq_true rfl) (Nat.le_of_ble_eq_true rfl)
    · obtain ⟨sa, hstr⟩ := hZ.2.2.2.2.2.2.2.2.2.2.2.2.2.2
      exact vx_throwS (own := RX0) (cls := "java/lang/IndexOutOfBoundsException") (names := ["java/lang/RuntimeException", "java/lang/Exception"]) hx hb hl9 hown (by decide +kernel) (by decide +kernel) (htG _ wd_232) (htG _ wd_29) hstr (vx_hat (L := vx_atS RX0 95 "java/lang/IndexOutOfBoundsException" ["java/lang/RuntimeException", "java/lang/Exception"]) (B := [.castable "java/lang/IndexOutOfBoundsException" "java/lang/IndexOutOfBoundsException", .declares ⟨"java/lang/RuntimeException", "<init>", "(Ljava/lang/String;)V"⟩, .declares ⟨"java/lang/Exception", "<init>", "(Ljava/lang/String;)V"⟩, .declares ⟨"java/lang/Throwable", "<init>", "(Ljava/lang/String;)V"⟩]) (fun w hw => htG w (xg_95 w hw)) (by decide +kernel) (vx_c (va_Nw.use rfl hZ.2.2.1.2.2.2.2.2) (vx_c (va_Nw.use rfl hZ.2.2.1.2.1) (vx_c (va_Nw.use rfl hZ.2.2.1.2.2.1) (vx_c (va_Nw.use rfl hZ.2.2.1.2.2.2.1) (vx_n)))))) (by decide +kernel) hZ.1 hZ.2.1 hS (hl.1.trans hml.symm) dX0_place_10 dX0_place_13 dX0_place_14 dX0_place_16 dX0_place_19 (fun x hx => (hEx x hx).elim) (Nat.le_of_ble_eq_true rfl) (Nat.le_of_ble_eq_true rfl) (Nat.le_of_ble_eq_true rfl) (Nat.le_of_ble_eq_true rfl) hlocks (fun t ha hsz hk => ⟨(), trivial, ⟨⟨rfl, (by rw [fX0_place, if_neg c_1, if_neg c_2])⟩, hP.kept (fun k q hq => hk q.1 (hP k q hq).lt), va_K.moved ha hK, hD⟩, Nat.le_trans hS.1 hsz, fun q h1 h2 => (hk q (Nat.lt_of_lt_of_le h1 hS.1)).trans (hS.2.1 q h1 h2)⟩) hS.2.2 (Nat.le_of_ble_eq_true rfl) (Nat.le_of_ble_eq_true rfl)
