def fX0_frame (xk1 xk2 xk3 : Nat → Int32) (xf3 xf4 xf5 xf6 xf7 xf8 xf9 xf10 xf11 xf12 xf13 : Int32) (p0 p1 p2 : Int32) : Int32 × Int32 × xWS :=
  if p0 < 0 then (1, 0, (xk1, xk2, xk3, xf3, xf4, xf5, xf6, xf7, xf8, xf9, xf10, xf11, xf12, xf13))
  else if p0 ≤ 1000000 then (if (p1 &&& 1057030143) = 0 then (if (p2 &&& (-1431306241)) = 0 then (if xf7 ≤ 0 then (0, (fX0_fill (((fX0_fill ((fX0_fill xf8 8) + p0) 8) + (8 * (fJ0_bitCount p2))) + (4 * (fJ0_bitCount p1))) 8), (xk1, xk2, xk3, xf3, xf4, xf5, xf6, xf7, xf8, (fX0_fill xf8 8), (fX0_fill ((fX0_fill xf8 8) + p0) 8), ((fX0_fill ((fX0_fill xf8 8) + p0) 8) + (8 * (fJ0_bitCount p2))), p1, p2))
          else (0, (fX0_fill (((fX0_fill ((fX0_fill xf8 8) + p0) 8) + (8 * (fJ0_bitCount p2))) + (4 * (fJ0_bitCount (p1 ||| (-2147483648))))) 8), (xk1, xk2, xk3, xf3, xf4, xf5, xf6, xf7, xf8, (fX0_fill xf8 8), (fX0_fill ((fX0_fill xf8 8) + p0) 8), ((fX0_fill ((fX0_fill xf8 8) + p0) 8) + (8 * (fJ0_bitCount p2))), (p1 ||| (-2147483648)), p2)))
        else (1, 0, (xk1, xk2, xk3, xf3, xf4, xf5, xf6, xf7, xf8, xf9, xf10, xf11, xf12, xf13)))
      else (1, 0, (xk1, xk2, xk3, xf3, xf4, xf5, xf6, xf7, xf8, xf9, xf10, xf11, xf12, xf13)))
    else (1, 0, (xk1, xk2, xk3, xf3, xf4, xf5, xf6, xf7, xf8, xf9, xf10, xf11, xf12, xf13))

abbrev wsX0_frame : List Cond := .code yX0_frame cX0_frame 4 (some .int) :: wG
set_option maxHeartbeats 4000000 in
set_option maxRecDepth 100000 in
theorem mX0_frame (l : Launch) (hl9 : l.stackTraces = false) (dC : Nat → ClassId) (dI : Nat → Nat → Nat) (xh0 xh1 xh2 xh3 : Nat) (sz : Nat) (xc1 xc2 xc3 : ClassId) (xk1 xk2 xk3 : Nat → Int32) (xf3 xf4 xf5 xf6 xf7 xf8 xf9 xf10 xf11 xf12 xf13 : Int32) (p0 p1 p2 : Int32)  : vx_Met l yX0_frame wsX0_frame ({ frames := 6, cells := 1, slots := 6, locals := 82 }) (va_Pc [.ref xh0, .int p0, .int p1, .int p2] (fun U => U.heap.size = sz ∧ va_P (dC, dI) vwCl (xW xh0 xh1 xh2 xh3 xc1 xc2 xc3 xk1 xk2 xk3 xf3 xf4 xf5 xf6 xf7 xf8 xf9 xf10 xf11 xf12 xf13) U.heap ∧ va_K (dC, dI) vwCl [(xc1, .int), (xc2, .int), (xc3, .int)] U ∧ va_D (fun _ => True) (xW xh0 xh1 xh2 xh3 xc1 xc2 xc3 xk1 xk2 xk3 xf3 xf4 xf5 xf6 xf7 xf8 xf9 xf10 xf11 xf12 xf13) ∧ xZ (va_A (xW xh0 xh1 xh2 xh3 xc1 xc2 xc3 xk1 xk2 xk3 xf3 xf4 xf5 xf6 xf7 xf8 xf9 xf10 xf11 xf12 xf13) sz) U U.heap)) (va_Qi (fun r u => (0, r, u) = fX0_frame xk1 xk2 xk3 xf3 xf4 xf5 xf6 xf7 xf8 xf9 xf10 xf11 xf12 xf13 p0 p1 p2) (xWB dC dI (va_A (xW xh0 xh1 xh2 xh3 xc1 xc2 xc3 xk1 xk2 xk3 xf3 xf4 xf5 xf6 xf7 xf8 xf9 xf10 xf11 xf12 xf13) sz) xh0 xh1 xh2 xh3 xc1 xc2 xc3) (va_A (xW xh0 xh1 xh2 xh3 xc1 xc2 xc3 xk1 xk2 xk3 xf3 xf4 xf5 xf6 xf7 xf8 xf9 xf10 xf11 xf12 xf13) sz)) (vx_X (fun _ : Unit => True) (fun E _ t => ((E = "java/lang/IllegalArgumentException" ∧ fX0_frame xk1 xk2 xk3 xf3 xf4 xf5 xf6 xf7 xf8 xf9 xf10 xf11 xf12 xf13 p0 p1 p2 = (1, 0, (xk1, xk2, xk3, xf3, xf4, xf5, xf6, xf7, xf8, xf9, xf10, xf11, xf12, xf13)))) ∧ xWB dC dI (va_A (xW xh0 xh1 xh2 xh3 xc1 xc2 xc3 xk1 xk2 xk3 xf3 xf4 xf5 xf6 xf7 xf8 xf9 xf10 xf11 xf12 xf13) sz) xh0 xh1 xh2 xh3 xc1 xc2 xc3 (xk1, xk2, xk3, xf3, xf4, xf5, xf6, xf7, xf8, xf9, xf10, xf11, xf12, xf13) t) (va_A (xW xh0 xh1 xh2 xh3 xc1 xc2 xc3 xk1 xk2 xk3 xf3 xf4 xf5 xf6 xf7 xf8 xf9 xf10 xf11 xf12 xf13) sz)) 1 6 (va_A (xW xh0 xh1 xh2 xh3 xc1 xc2 xc3 xk1 xk2 xk3 xf3 xf4 xf5 xf6 xf7 xf8 xf9 xf10 xf11 xf12 xf13) sz) := by
  refine vx_ofW (cc := cX0_frame) (maxL := 4) (ret := (some .int)) (by decide) rfl ?_
  intro p e s m args below meth c s₁ B hml hEx hv
  obtain ⟨rfl, hsz, hP, hK, hD0, hZ⟩ := hv
  have hx := B.exec
  have hb := B.bytes
  have hr := B.returns
  have hts := atoms_spec (ws := wsX0_frame) B.pre
  have htG := fun (w : Cond) (h : w ∈ wG) => hts w (List.mem_cons_of_mem _ h)
  have hown : s.vm.findClass RX0 = some m.cls := findClass_of_methodNamed B.named
  have hlocks := B.notSynchronized
  subst hsz
  have hD := hD0.self (sz := s.heap.size)
  generalize hAe : va_A (xW xh0 xh1 xh2 xh3 xc1 xc2 xc3 xk1 xk2 xk3 xf3 xf4 xf5 xf6 xf7 xf8 xf9 xf10 xf11 xf12 xf13) s.heap.size = A at hD hZ ⊢
  have hA : ∀ q : Nat, s.heap.size ≤ q → A q := fun q h => by rw [← hAe]; exact Or.inr h
  have hS : va_S A s.heap s.heap [] := va_S.rf
  have hP : va_P (dC, dI) vwCl (xW xh0 xh1 xh2 xh3 xc1 xc2 xc3 xk1 xk2 xk3 xf3 xf4 xf5 xf6 xf7 xf8 xf9 xf10 xf11 xf12 xf13) s.heap := hP
  have hl := lv_entry ([.ref xh0, .int p0, .int p1, .int p2]) (n := 4) (Nat.le_of_ble_eq_true rfl)
  rw [lg_entry_eq]
  generalize (lg_sl ([.ref xh0, .int p0, .int p1, .int p2]) ++ List.replicate (4 - (lg_sl ([.ref xh0, .int p0, .int p1, .int p2])).length) Slot.unset).toArray = ls at hl ⊢
  have hl : lv_has ls 4 [(0, .ref xh0), (1, .int p0), (2, .int p1), (3, .int p2)] := hl
  refine lv_iload_n hx hb dX0_frame_0 rfl (lv_at hl 1 rfl) ?_
  refine lv_if_lt (tgt := 10) hx hb dX0_frame_1 (by decide) (fun c_1 => ?_) (fun c_1 => ?_)
  · obtain ⟨sa, hstr⟩ := hZ.2.2.2.2.2.2.2.2.2.2.2.1
    exact vx_throwS (own := RX0) (cls := "java/lang/IllegalArgumentException") (names := ["java/lang/RuntimeException", "java/lang/Exception"]) hx hb hl9 hown (by decide +kernel) (by decide +kernel) (htG _ wd_110) (htG _ wd_27) hstr (vx_hat (L := vx_atS RX0 58 "java/lang/IllegalArgumentException" ["java/lang/RuntimeException", "java/lang/Exception"]) (B := [.castable "java/lang/IllegalArgumentException" "java/lang/IllegalArgumentException", .declares ⟨"java/lang/RuntimeException", "<init>", "(Ljava/lang/String;)V"⟩, .declares ⟨"java/lang/Exception", "<init>", "(Ljava/lang/String;)V"⟩, .declares ⟨"java/lang/Throwable", "<init>", "(Ljava/lang/String;)V"⟩]) (fun w hw => htG w (xg_58 w hw)) (by decide +kernel) (vx_c (va_Nw.use rfl hZ.2.2.1.1) (vx_c (va_Nw.use rfl hZ.2.2.1.2.1) (vx_c (va_Nw.use rfl hZ.2.2.1.2.2.1) (vx_c (va_Nw.use rfl hZ.2.2.1.2.2.2.1) (vx_n)))))) (by decide +kernel) hZ.1 hZ.2.1 hS (hl.1.trans hml.symm) dX0_frame_10 dX0_frame_13 dX0_frame_14 dX0_frame_16 dX0_frame_19 (fun x hx => (hEx x hx).elim) (Nat.le_of_ble_eq_true rfl) (Nat.le_of_ble_eq_true rfl) (Nat.le_of_ble_eq_true rfl) (Nat.le_of_ble_eq_true rfl) hlocks (fun t ha hsz hk => ⟨(), trivial, ⟨⟨rfl, (by rw [fX0_frame, if_pos c_1])⟩, hP.kept (fun k q hq => hk q.1 (hP k q hq).lt), va_K.moved ha hK, hD⟩, Nat.le_trans hS.1 hsz, fun q h1 h2 => (hk q (Nat.lt_of_lt_of_le h1 hS.1)).trans (hS.2.1 q h1 h2)⟩) hS.2.2 (Nat.le_of_ble_eq_true rfl) (Nat.le_of_ble_eq_true rfl)
  · refine lv_iload_n hx hb dX0_frame_4 rfl (lv_at hl 1 rfl) ?_
    refine lv_ldc (v := 1000000) hx hb hown (htG _ wd_214) dX0_frame_5 ?_
    refine lv_icmp_le (tgt := 20) hx hb dX0_frame_7 (by decide) (fun c_2 => ?_) (fun c_2 => ?_)
    · refine lv_iload_n hx hb dX0_frame_20 rfl (lv_at hl 2 rfl) ?_
      refine lv_ldc (v := 1057030143) hx hb hown (htG _ wd_303) dX0_frame_21 ?_
      refine lv_iand hx hb dX0_frame_23 ?_
      refine lv_if_eq (tgt := 37) hx hb dX0_frame_24 (by decide) (fun c_3 => ?_) (fun c_3 => ?_)
      · refine lv_iload_n hx hb dX0_frame_37 rfl (lv_at hl 3 rfl) ?_
        refine lv_ldc (v := (-1431306241)) hx hb hown (htG _ wd_305) dX0_frame_38 ?_
        refine lv_iand hx hb dX0_frame_40 ?_
        refine lv_if_eq (tgt := 54) hx hb dX0_frame_41 (by decide) (fun c_4 => ?_) (fun c_4 => ?_)
        · refine lv_aload_n hx hb dX0_frame_54 rfl (lv_at hl 0 rfl) ?_
          refine lv_aload_n hx hb dX0_frame_55 rfl (lv_at hl 0 rfl) ?_
          refine va_get (D := (dC, dI)) (ci := 0) (v := .int xf7) (C := RX0) (T := TX0) (N := 14) hx hb htG inX0 hown hK hP 0 rfl rfl 7 (by decide) (htG _ wd_47) (fun _ h9 => h9) rfl dX0_frame_56 ?_
          refine lv_if_le (tgt := 69) hx hb dX0_frame_59 (by decide) (fun c_5 => ?_) (fun c_5 => ?_)
          · refine lv_iload_n hx hb dX0_frame_69 rfl (lv_at hl 2 rfl) ?_
            refine va_put (D := (dC, dI)) (ci := 0) (v := .int p1) (ty := .int) (C := RX0) (T := TX0) (N := 14) hx hb htG inX0 tyX0 tyX0_ok nmX0 hown hK hP hD hS 0 rfl rfl 12 (by decide) (htG _ wd_52) (fun _ h9 => h9) rfl (by decide +kernel) rfl rfl (Nat.le_of_ble_eq_true rfl) dX0_frame_70 (fun H locs hP hD hS => ?_)
            have hP : va_P (dC, dI) vwCl (xW xh0 xh1 xh2 xh3 xc1 xc2 xc3 xk1 xk2 xk3 xf3 xf4 xf5 xf6 xf7 xf8 xf9 xf10 xf11 p1 xf13) H := hP
            have hD : va_D A (xW xh0 xh1 xh2 xh3 xc1 xc2 xc3 xk1 xk2 xk3 xf3 xf4 xf5 xf6 xf7 xf8 xf9 xf10 xf11 p1 xf13) := hD
            refine lv_aload_n hx hb dX0_frame_73 rfl (lv_at hl 0 rfl) ?_
            refine lv_iload_n hx hb dX0_frame_74 rfl (lv_at hl 3 rfl) ?_
            refine va_put (D := (dC, dI)) (ci := 0) (v := .int p2) (ty := .int) (C := RX0) (T := TX0) (N := 14) hx hb htG inX0 tyX0 tyX0_ok nmX0 hown hK hP hD hS 0 rfl rfl 13 (by decide) (htG _ wd_53) (fun _ h9 => h9) rfl (by decide +kernel) rfl rfl (Nat.le_of_ble_eq_true rfl) dX0_frame_75 (fun H locs hP hD hS => ?_)
            have hP : va_P (dC, dI) vwCl (xW xh0 xh1 xh2 xh3 xc1 xc2 xc3 xk1 xk2 xk3 xf3 xf4 xf5 xf6 xf7 xf8 xf9 xf10 xf11 p1 p2) H := hP
            have hD : va_D A (xW xh0 xh1 xh2 xh3 xc1 xc2 xc3 xk1 xk2 xk3 xf3 xf4 xf5 xf6 xf7 xf8 xf9 xf10 xf11 p1 p2) := hD
            refine lv_aload_n hx hb dX0_frame_78 rfl (lv_at hl 0 rfl) ?_
            refine lv_aload_n hx hb dX0_frame_79 rfl (lv_at hl 0 rfl) ?_
            refine va_get (D := (dC, dI)) (ci := 0) (v := .int xf8) (C := RX0) (T := TX0) (N := 14) hx hb htG inX0 hown hK hP 0 rfl rfl 8 (by decide) (htG _ wd_48) (fun _ h9 => h9) rfl dX0_frame_80 ?_
            refine lv_bipush (v := 8) hx hb dX0_frame_83 (by decide) ?_
            refine vp_callSi (va_runS (As := [.int xf8, .int 8]) (rest := [.ref xh0]) ⟨hx, hb, hml, hown, htG⟩ (mX0_fill l xf8 8) (va_cwS 2 htG (wG_S wd_92 wd_93 wd_22 wd_94) rfl rfl rfl (by decide +kernel) ⟨Nat.le_of_ble_eq_true rfl, Nat.le_of_ble_eq_true rfl⟩) ⟨fun _ _ _ _ q => q, fun U hU hW => ⟨rfl, trivial⟩⟩ rfl rfl hl.1 rfl (lv_room (Nat.le_of_ble_eq_true rfl)) dX0_frame_85 ⟨Nat.le_of_ble_eq_true rfl, Nat.le_of_ble_eq_true rfl⟩).run (fun r_1 er_1 => ?_)
            subst er_1
            refine va_put (D := (dC, dI)) (ci := 0) (v := .int (fX0_fill xf8 8)) (ty := .int) (C := RX0) (T := TX0) (N := 14) hx hb htG inX0 tyX0 tyX0_ok nmX0 hown hK hP hD hS 0 rfl rfl 9 (by decide) (htG _ wd_49) (fun _ h9 => h9) rfl (by decide +kernel) rfl rfl (Nat.le_of_ble_eq_true rfl) dX0_frame_88 (fun H locs hP hD hS => ?_)
            have hP : va_P (dC, dI) vwCl (xW xh0 xh1 xh2 xh3 xc1 xc2 xc3 xk1 xk2 xk3 xf3 xf4 xf5 xf6 xf7 xf8 (fX0_fill xf8 8) xf10 xf11 p1 p2) H := hP
            have hD : va_D A (xW xh0 xh1 xh2 xh3 xc1 xc2 xc3 xk1 xk2 xk3 xf3 xf4 xf5 xf6 xf7 xf8 (fX0_fill xf8 8) xf10 xf11 p1 p2) := hD
            refine lv_aload_n hx hb dX0_frame_91 rfl (lv_at hl 0 rfl) ?_
            refine lv_aload_n hx hb dX0_frame_92 rfl (lv_at hl 0 rfl) ?_
            refine va_get (D := (dC, dI)) (ci := 0) (v := .int (fX0_fill xf8 8)) (C := RX0) (T := TX0) (N := 14) hx hb htG inX0 hown hK hP 0 rfl rfl 9 (by decide) (htG _ wd_49) (fun _ h9 => h9) rfl dX0_frame_93 ?_
            refine lv_iload_n hx hb dX0_frame_96 rfl (lv_at hl 1 rfl) ?_
            refine lv_iadd hx hb dX0_frame_97 ?_
            refine lv_bipush (v := 8) hx hb dX0_frame_98 (by decide) ?_
            refine vp_callSi (va_runS (As := [.int ((fX0_fill xf8 8) + p0), .int 8]) (rest := [.ref xh0]) ⟨hx, hb, hml, hown, htG⟩ (mX0_fill l ((fX0_fill xf8 8) + p0) 8) (va_cwS 2 htG (wG_S wd_92 wd_93 wd_22 wd_94) rfl rfl rfl (by decide +kernel) ⟨Nat.le_of_ble_eq_true rfl, Nat.le_of_ble_eq_true rfl⟩) ⟨fun _ _ _ _ q => q, fun U hU hW => ⟨rfl, trivial⟩⟩ rfl rfl hl.1 rfl (lv_room (Nat.le_of_ble_eq_true rfl)) dX0_frame_100 ⟨Nat.le_of_ble_eq_true rfl, Nat.le_of_ble_eq_true rfl⟩).run (fun r_2 er_2 => ?_)
            subst er_2
            refine va_put (D := (dC, dI)) (ci := 0) (v := .int (fX0_fill ((fX0_fill xf8 8) + p0) 8)) (ty := .int) (C := RX0) (T := TX0) (N := 14) hx hb htG inX0 tyX0 tyX0_ok nmX0 hown hK hP hD hS 0 rfl rfl 10 (by decide) (htG _ wd_50) (fun _ h9 => h9) rfl (by decide +kernel) rfl rfl (Nat.le_of_ble_eq_true rfl) dX0_frame_103 (fun H locs hP hD hS => ?_)
            have hP : va_P (dC, dI) vwCl (xW xh0 xh1 xh2 xh3 xc1 xc2 xc3 xk1 xk2 xk3 xf3 xf4 xf5 xf6 xf7 xf8 (fX0_fill xf8 8) (fX0_fill ((fX0_fill xf8 8) + p0) 8) xf11 p1 p2) H := hP
            have hD : va_D A (xW xh0 xh1 xh2 xh3 xc1 xc2 xc3 xk1 xk2 xk3 xf3 xf4 xf5 xf6 xf7 xf8 (fX0_fill xf8 8) (fX0_fill ((fX0_fill xf8 8) + p0) 8) xf11 p1 p2) := hD
            refine lv_aload_n hx hb dX0_frame_106 rfl (lv_at hl 0 rfl) ?_
            refine lv_aload_n hx hb dX0_frame_107 rfl (lv_at hl 0 rfl) ?_
            refine va_get (D := (dC, dI)) (ci := 0) (v := .int (fX0_fill ((fX0_fill xf8 8) + p0) 8)) (C := RX0) (T := TX0) (N := 14) hx hb htG inX0 hown hK hP 0 rfl rfl 10 (by decide) (htG _ wd_50) (fun _ h9 => h9) rfl dX0_frame_108 ?_
            refine lv_bipush (v := 8) hx hb dX0_frame_111 (by decide) ?_
            refine lv_aload_n hx hb dX0_frame_113 rfl (lv_at hl 0 rfl) ?_
            refine va_get (D := (dC, dI)) (ci := 0) (v := .int p2) (C := RX0) (T := TX0) (N := 14) hx hb htG inX0 hown hK hP 0 rfl rfl 13 (by decide) (htG _ wd_53) (fun _ h9 => h9) rfl dX0_frame_114 ?_
            refine vp_callSi (va_runS (As := [.int p2]) (rest := [.int 8, .int (fX0_fill ((fX0_fill xf8 8) + p0) 8), .ref xh0]) ⟨hx, hb, hml, hown, htG⟩ (mJ0_bitCount l p2) (va_cwS 1 htG (wG_S wd_308 wd_309 wd_31 wd_310) rfl rfl rfl (by decide +kernel) ⟨Nat.le_of_ble_eq_true rfl, Nat.le_of_ble_eq_true rfl⟩) ⟨fun _ _ _ _ q => q, fun U hU hW => ⟨rfl, trivial⟩⟩ rfl rfl hl.1 rfl (lv_room (Nat.le_of_ble_eq_true rfl)) dX0_frame_117 ⟨Nat.le_of_ble_eq_true rfl, Nat.le_of_ble_eq_true rfl⟩).run (fun r_3 er_3 => ?_)
            subst er_3
            refine lv_imul hx hb dX0_frame_120 ?_
            refine lv_iadd hx hb dX0_frame_121 ?_
            refine va_put (D := (dC, dI)) (ci := 0) (v := .int ((fX0_fill ((fX0_fill xf8 8) + p0) 8) + (8 * (fJ0_bitCount p2)))) (ty := .int) (C := RX0) (T := TX0) (N := 14) hx hb htG inX0 tyX0 tyX0_ok nmX0 hown hK hP hD hS 0 rfl rfl 11 (by decide) (htG _ wd_51) (fun _ h9 => h9) rfl (by decide +kernel) rfl rfl (Nat.le_of_ble_eq_true rfl) dX0_frame_122 (fun H locs hP hD hS => ?_)
            have hP : va_P (dC, dI) vwCl (xW xh0 xh1 xh2 xh3 xc1 xc2 xc3 xk1 xk2 xk3 xf3 xf4 xf5 xf6 xf7 xf8 (fX0_fill xf8 8) (fX0_fill ((fX0_fill xf8 8) + p0) 8) ((fX0_fill ((fX0_fill xf8 8) + p0) 8) + (8 * (fJ0_bitCount p2))) p1 p2) H := hP
            have hD : va_D A (xW xh0 xh1 xh2 xh3 xc1 xc2 xc3 xk1 xk2 xk3 xf3 xf4 xf5 xf6 xf7 xf8 (fX0_fill xf8 8) (fX0_fill ((fX0_fill xf8 8) + p0) 8) ((fX0_fill ((fX0_fill xf8 8) + p0) 8) + (8 * (fJ0_bitCount p2))) p1 p2) := hD
            refine lv_aload_n hx hb dX0_frame_125 rfl (lv_at hl 0 rfl) ?_
            refine va_get (D := (dC, dI)) (ci := 0) (v := .int ((fX0_fill ((fX0_fill xf8 8) + p0) 8) + (8 * (fJ0_bitCount p2)))) (C := RX0) (T := TX0) (N := 14) hx hb htG inX0 hown hK hP 0 rfl rfl 11 (by decide) (htG _ wd_51) (fun _ h9 => h9) rfl dX0_frame_126 ?_
            refine lv_iconst (v := 4) hx hb dX0_frame_129 (by decide) ?_
            refine lv_aload_n hx hb dX0_frame_130 rfl (lv_at hl 0 rfl) ?_
            refine va_get (D := (dC, dI)) (ci := 0) (v := .int p1) (C := RX0) (T := TX0) (N := 14) hx hb htG inX0 hown hK hP 0 rfl rfl 12 (by decide) (htG _ wd_52) (fun _ h9 => h9) rfl dX0_frame_131 ?_
            refine vp_callSi (va_runS (As := [.int p1]) (rest := [.int 4, .int ((fX0_fill ((fX0_fill xf8 8) + p0) 8) + (8 * (fJ0_bitCount p2)))]) ⟨hx, hb, hml, hown, htG⟩ (mJ0_bitCount l p1) (va_cwS 1 htG (wG_S wd_308 wd_309 wd_31 wd_310) rfl rfl rfl (by decide +kernel) ⟨Nat.le_of_ble_eq_true rfl, Nat.le_of_ble_eq_true rfl⟩) ⟨fun _ _ _ _ q => q, fun U hU hW => ⟨rfl, trivial⟩⟩ rfl rfl hl.1 rfl (lv_room (Nat.le_of_ble_eq_true rfl)) dX0_frame_134 ⟨Nat.le_of_ble_eq_true rfl, Nat.le_of_ble_eq_true rfl⟩).run (fun r_4 er_4 => ?_)
            subst er_4
            refine lv_imul hx hb dX0_frame_137 ?_
            refine lv_iadd hx hb dX0_frame_138 ?_
            refine lv_bipush (v := 8) hx hb dX0_frame_139 (by decide) ?_
            refine vp_callSi (va_runS (As := [.int (((fX0_fill ((fX0_fill xf8 8) + p0) 8) + (8 * (fJ0_bitCount p2))) + (4 * (fJ0_bitCount p1))), .int 8]) (rest := []) ⟨hx, hb, hml, hown, htG⟩ (mX0_fill l (((fX0_fill ((fX0_fill xf8 8) + p0) 8) + (8 * (fJ0_bitCount p2))) + (4 * (fJ0_bitCount p1))) 8) (va_cwS 2 htG (wG_S wd_92 wd_93 wd_22 wd_94) rfl rfl rfl (by decide +kernel) ⟨Nat.le_of_ble_eq_true rfl, Nat.le_of_ble_eq_true rfl⟩) ⟨fun _ _ _ _ q => q, fun U hU hW => ⟨rfl, trivial⟩⟩ rfl rfl hl.1 rfl (lv_room (Nat.le_of_ble_eq_true rfl)) dX0_frame_141 ⟨Nat.le_of_ble_eq_true rfl, Nat.le_of_ble_eq_true rfl⟩).run (fun r_5 er_5 => ?_)
            subst er_5
            refine W.widen (k := 1) (n := 6) (Nat.le_of_ble_eq_true rfl) (Nat.le_of_ble_eq_true rfl) ?_
            exact vx_ret (W.iret (v := (fX0_fill (((fX0_fill ((fX0_fill xf8 8) + p0) 8) + (8 * (fJ0_bitCount p2))) + (4 * (fJ0_bitCount p1))) 8)) hx hb hr (fun t ht hW => ⟨⟨(fX0_fill (((fX0_fill ((fX0_fill xf8 8) + p0) 8) + (8 * (fJ0_bitCount p2))) + (4 * (fJ0_bitCount p1))) 8), (xk1, xk2, xk3, xf3, xf4, xf5, xf6, xf7, xf8, (fX0_fill xf8 8), (fX0_fill ((fX0_fill xf8 8) + p0) 8), ((fX0_fill ((fX0_fill xf8 8) + p0) 8) + (8 * (fJ0_bitCount p2))), p1, p2), rfl, (by rw [fX0_frame, if_neg c_1, if_pos c_2, if_pos c_3, if_pos c_4, if_pos c_5]), by rw [ht]; exact hP, va_K.moved hW.alike hK, hD⟩, hS.F ht⟩) hS.2.2 dX0_frame_144)
          · refine lv_iload_n hx hb dX0_frame_62 rfl (lv_at hl 2 rfl) ?_
            refine lv_ldc (v := (-2147483648)) hx hb hown (htG _ wd_307) dX0_frame_63 ?_
            refine lv_ior hx hb dX0_frame_65 ?_
            refine lv_goto (tgt := 70) hx hb dX0_frame_66 (by decide) ?_
            refine va_put (D := (dC, dI)) (ci := 0) (v := .int (p1 ||| (-2147483648))) (ty := .int) (C := RX0) (T := TX0) (N := 14) hx hb htG inX0 tyX0 tyX0_ok nmX0 hown hK hP hD hS 0 rfl rfl 12 (by decide) (htG _ wd_52) (fun _ h9 => h9) rfl (by decide +kernel) rfl rfl (Nat.le_of_ble_eq_true rfl) dX0_frame_70 (fun H locs hP hD hS => ?_)
            have hP : va_P (dC, dI) vwCl (xW xh0 xh1 xh2 xh3 xc1 xc2 xc3 xk1 xk2 xk3 xf3 xf4 xf5 xf6 xf7 xf8 xf9 xf10 xf11 (p1 ||| (-2147483648)) xf13) H := hP
            have hD : va_D A (xW xh0 xh1 xh2 xh3 xc1 xc2 xc3 xk1 xk2 xk3 xf3 xf4 xf5 xf6 xf7 xf8 xf9 xf10 xf11 (p1 ||| (-2147483648)) xf13) := hD
            refine lv_aload_n hx hb dX0_frame_73 rfl (lv_at hl 0 rfl) ?_
            refine lv_iload_n hx hb dX0_frame_74 rfl (lv_at hl 3 rfl) ?_
            refine va_put (D := (dC, dI)) (ci := 0) (v := .int p2) (ty := .int) (C := RX0) (T := TX0) (N := 14) hx hb htG inX0 tyX0 tyX0_ok nmX0 hown hK hP hD hS 0 rfl rfl 13 (by decide) (htG _ wd_53) (fun _ h9 => h9) rfl (by decide +kernel) rfl rfl (Nat.le_of_ble_eq_true rfl) dX0_frame_75 (fun H locs hP hD hS => ?_)
            have hP : va_P (dC, dI) vwCl (xW xh0 xh1 xh2 xh3 xc1 xc2 xc3 xk1 xk2 xk3 xf3 xf4 xf5 xf6 xf7 xf8 xf9 xf10 xf11 (p1 ||| (-2147483648)) p2) H := hP
            have hD : va_D A (xW xh0 xh1 xh2 xh3 xc1 xc2 xc3 xk1 xk2 xk3 xf3 xf4 xf5 xf6 xf7 xf8 xf9 xf10 xf11 (p1 ||| (-2147483648)) p2) := hD
            refine lv_aload_n hx hb dX0_frame_78 rfl (lv_at hl 0 rfl) ?_
            refine lv_aload_n hx hb dX0_frame_79 rfl (lv_at hl 0 rfl) ?_
            refine va_get (D := (dC, dI)) (ci := 0) (v := .int xf8) (C := RX0) (T := TX0) (N := 14) hx hb htG inX0 hown hK hP 0 rfl rfl 8 (by decide) (htG _ wd_48) (fun _ h9 => h9) rfl dX0_frame_80 ?_
            refine lv_bipush (v := 8) hx hb dX0_frame_83 (by decide) ?_
            refine vp_callSi (va_runS (As := [.int xf8, .int 8]) (rest := [.ref xh0]) ⟨hx, hb, hml, hown, htG⟩ (mX0_fill l xf8 8) (va_cwS 2 htG (wG_S wd_92 wd_93 wd_22 wd_94) rfl rfl rfl (by decide +kernel) ⟨Nat.le_of_ble_eq_true rfl, Nat.le_of_ble_eq_true rfl⟩) ⟨fun _ _ _ _ q => q, fun U hU hW => ⟨rfl, trivial⟩⟩ rfl rfl hl.1 rfl (lv_room (Nat.le_of_ble_eq_true rfl)) dX0_frame_85 ⟨Nat.le_of_ble_eq_true rfl, Nat.le_of_ble_eq_true rfl⟩).run (fun r_6 er_6 => ?_)
            subst er_6
            refine va_put (D := (dC, dI)) (ci := 0) (v := .int (fX0_fill xf8 8)) (ty := .int) (C := RX0) (T := TX0) (N := 14) hx hb htG inX0 tyX0 tyX0_ok nmX0 hown hK hP hD hS 0 rfl rfl 9 (by decide) (htG _ wd_49) (fun _ h9 => h9) rfl (by decide +kernel) rfl rfl (Nat.le_of_ble_eq_true rfl) dX0_frame_88 (fun H locs hP hD hS => ?_)
            have hP : va_P (dC, dI) vwCl (xW xh0 xh1 xh2 xh3 xc1 xc2 xc3 xk1 xk2 xk3 xf3 xf4 xf5 xf6 xf7 xf8 (fX0_fill xf8 8) xf10 xf11 (p1 ||| (-2147483648)) p2) H := hP
            have hD : va_D A (xW xh0 xh1 xh2 xh3 xc1 xc2 xc3 xk1 xk2 xk3 xf3 xf4 xf5 xf6 xf7 xf8 (fX0_fill xf8 8) xf10 xf11 (p1 ||| (-2147483648)) p2) := hD
            refine lv_aload_n hx hb dX0_frame_91 rfl (lv_at hl 0 rfl) ?_
            refine lv_aload_n hx hb dX0_frame_92 rfl (lv_at hl 0 rfl) ?_
            refine va_get (D := (dC, dI)) (ci := 0) (v := .int (fX0_fill xf8 8)) (C := RX0) (T := TX0) (N := 14) hx hb htG inX0 hown hK hP 0 rfl rfl 9 (by decide) (htG _ wd_49) (fun _ h9 => h9) rfl dX0_frame_93 ?_
            refine lv_iload_n hx hb dX0_frame_96 rfl (lv_at hl 1 rfl) ?_
            refine lv_iadd hx hb dX0_frame_97 ?_
            refine lv_bipush (v := 8) hx hb dX0_frame_98 (by decide) ?_
            refine vp_callSi (va_runS (As := [.int ((fX0_fill xf8 8) + p0), .int 8]) (rest := [.ref xh0]) ⟨hx, hb, hml, hown, htG⟩ (mX0_fill l ((fX0_fill xf8 8) + p0) 8) (va_cwS 2 htG (wG_S wd_92 wd_93 wd_22 wd_94) rfl rfl rfl (by decide +kernel) ⟨Nat.le_of_ble_eq_true rfl, Nat.le_of_ble_eq_true rfl⟩) ⟨fun _ _ _ _ q => q, fun U hU hW => ⟨rfl, trivial⟩⟩ rfl rfl hl.1 rfl (lv_room (Nat.le_of_ble_eq_true rfl)) dX0_frame_100 ⟨Nat.le_of_ble_eq_true rfl, Nat.le_of_ble_eq_true rfl⟩).run (fun r_7 er_7 => ?_)
            subst er_7
            refine va_put (D := (dC, dI)) (ci := 0) (v := .int (fX0_fill ((fX0_fill xf8 8) + p0) 8)) (ty := .int) (C := RX0) (T := TX0) (N := 14) hx hb htG inX0 tyX0 tyX0_ok nmX0 hown hK hP hD hS 0 rfl rfl 10 (by decide) (htG _ wd_50) (fun _ h9 => h9) rfl (by decide +kernel) rfl rfl (Nat.le_of_ble_eq_true rfl) dX0_frame_103 (fun H locs hP hD hS => ?_)
            have hP : va_P (dC, dI) vwCl (xW xh0 xh1 xh2 xh3 xc1 xc2 xc3 xk1 xk2 xk3 xf3 xf4 xf5 xf6 xf7 xf8 (fX0_fill xf8 8) (fX0_fill ((fX0_fill xf8 8) + p0) 8) xf11 (p1 ||| (-2147483648)) p2) H := hP
            have hD : va_D A (xW xh0 xh1 xh2 xh3 xc1 xc2 xc3 xk1 xk2 xk3 xf3 xf4 xf5 xf6 xf7 xf8 (fX0_fill xf8 8) (fX0_fill ((fX0_fill xf8 8) + p0) 8) xf11 (p1 ||| (-2147483648)) p2) := hD
            refine lv_aload_n hx hb dX0_frame_106 rfl (lv_at hl 0 rfl) ?_
            refine lv_aload_n hx hb dX0_frame_107 rfl (lv_at hl 0 rfl) ?_
            refine va_get (D := (dC, dI)) (ci := 0) (v := .int (fX0_fill ((fX0_fill xf8 8) + p0) 8)) (C := RX0) (T := TX0) (N := 14) hx hb htG inX0 hown hK hP 0 rfl rfl 10 (by decide) (htG _ wd_50) (fun _ h9 => h9) rfl dX0_frame_108 ?_
            refine lv_bipush (v := 8) hx hb dX0_frame_111 (by decide) ?_
            refine lv_aload_n hx hb dX0_frame_113 rfl (lv_at hl 0 rfl) ?_
            refine va_get (D := (dC, dI)) (ci := 0) (v := .int p2) (C := RX0) (T := TX0) (N := 14) hx hb htG inX0 hown hK hP 0 rfl rfl 13 (by decide) (htG _ wd_53) (fun _ h9 => h9) rfl dX0_frame_114 ?_
            refine vp_callSi (va_runS (As := [.int p2]) (rest := [.int 8, .int (fX0_fill ((fX0_fill xf8 8) + p0) 8), .ref xh0]) ⟨hx, hb, hml, hown, htG⟩ (mJ0_bitCount l p2) (va_cwS 1 htG (wG_S wd_308 wd_309 wd_31 wd_310) rfl rfl rfl (by decide +kernel) ⟨Nat.le_of_ble_eq_true rfl, Nat.le_of_ble_eq_true rfl⟩) ⟨fun _ _ _ _ q => q, fun U hU hW => ⟨rfl, trivial⟩⟩ rfl rfl hl.1 rfl (lv_room (Nat.le_of_ble_eq_true rfl)) dX0_frame_117 ⟨Nat.le_of_ble_eq_true rfl, Nat.le_of_ble_eq_true rfl⟩).run (fun r_8 er_8 => ?_)
            subst er_8
            refine lv_imul hx hb dX0_frame_120 ?_
            refine lv_iadd hx hb dX0_frame_121 ?_
            refine va_put (D := (dC, dI)) (ci := 0) (v := .int ((fX0_fill ((fX0_fill xf8 8) + p0) 8) + (8 * (fJ0_bitCount p2)))) (ty := .int) (C := RX0) (T := TX0) (N := 14) hx hb htG inX0 tyX0 tyX0_ok nmX0 hown hK hP hD hS 0 rfl rfl 11 (by decide) (htG _ wd_51) (fun _ h9 => h9) rfl (by decide +kernel) rfl rfl (Nat.le_of_ble_eq_true rfl) dX0_frame_122 (fun H locs hP hD hS => ?_)
            have hP : va_P (dC, dI) vwCl (xW xh0 xh1 xh2 xh3 xc1 xc2 xc3 xk1 xk2 xk3 xf3 xf4 xf5 xf6 xf7 xf8 (fX0_fill xf8 8) (fX0_fill ((fX0_fill xf8 8) + p0) 8) ((fX0_fill ((fX0_fill xf8 8) + p0) 8) + (8 * (fJ0_bitCount p2))) (p1 ||| (-2147483648)) p2) H := hP
            have hD : va_D A (xW xh0 xh1 xh2 xh3 xc1 xc2 xc3 xk1 xk2 xk3 xf3 xf4 xf5 xf6 xf7 xf8 (fX0_fill xf8 8) (fX0_fill ((fX0_fill xf8 8) + p0) 8) ((fX0_fill ((fX0_fill xf8 8) + p0) 8) + (8 * (fJ0_bitCount p2))) (p1 ||| (-2147483648)) p2) := hD
            refine lv_aload_n hx hb dX0_frame_125 rfl (lv_at hl 0 rfl) ?_
            refine va_get (D := (dC, dI)) (ci := 0) (v := .int ((fX0_fill ((fX0_fill xf8 8) + p0) 8) + (8 * (fJ0_bitCount p2)))) (C := RX0) (T := TX0) (N := 14) hx hb htG inX0 hown hK hP 0 rfl rfl 11 (by decide) (htG _ wd_51) (fun _ h9 => h9) rfl dX0_frame_126 ?_
            refine lv_iconst (v := 4) hx hb dX0_frame_129 (by decide) ?_
            refine lv_aload_n hx hb dX0_frame_130 rfl (lv_at hl 0 rfl) ?_
            refine va_get (D := (dC, dI)) (ci := 0) (v := .int (p1 ||| (-2147483648))) (C := RX0) (T := TX0) (N := 14) hx hb htG inX0 hown hK hP 0 rfl rfl 12 (by decide) (htG _ wd_52) (fun _ h9 => h9) rfl dX0_frame_131 ?_
            refine vp_callSi (va_runS (As := [.int (p1 ||| (-2147483648))]) (rest := [.int 4, .int ((fX0_fill ((fX0_fill xf8 8) + p0) 8) + (8 * (fJ0_bitCount p2)))]) ⟨hx, hb, hml, hown, htG⟩ (mJ0_bitCount l (p1 ||| (-2147483648))) (va_cwS 1 htG (wG_S wd_308 wd_309 wd_31 wd_310) rfl rfl rfl (by decide +kernel) ⟨Nat.le_of_ble_eq_true rfl, Nat.le_of_ble_eq_true rfl⟩) ⟨fun _ _ _ _ q => q, fun U hU hW => ⟨rfl, trivial⟩⟩ rfl rfl hl.1 rfl (lv_room (Nat.le_of_ble_eq_true rfl)) dX0_frame_134 ⟨Nat.le_of_ble_eq_true rfl, Nat.le_of_ble_eq_true rfl⟩).run (fun r_9 er_9 => ?_)
            subst er_9
            refine lv_imul hx hb dX0_frame_137 ?_
            refine lv_iadd hx hb dX0_frame_138 ?_
            refine lv_bipush (v := 8) hx hb dX0_frame_139 (by decide) ?_
            refine vp_callSi (va_runS (As := [.int (((fX0_fill ((fX0_fill xf8 8) + p0) 8) + (8 * (fJ0_bitCount p2))) + (4 * (fJ0_bitCount (p1 ||| (-2147483648))))), .int 8]) (rest := []) ⟨hx, hb, hml, hown, htG⟩ (mX0_fill l (((fX0_fill ((fX0_fill xf8 8) + p0) 8) + (8 * (fJ0_bitCount p2))) + (4 * (fJ0_bitCount (p1 ||| (-2147483648))))) 8) (va_cwS 2 htG (wG_S wd_92 wd_93 wd_22 wd_94) rfl rfl rfl (by decide +kernel) ⟨Nat.le_of_ble_eq_true rfl, Nat.le_of_ble_eq_true rfl⟩) ⟨fun _ _ _ _ q => q, fun U hU hW => ⟨rfl, trivial⟩⟩ rfl rfl hl.1 rfl (lv_room (Nat.le_of_ble_eq_true rfl)) dX0_frame_141 ⟨Nat.le_of_ble_eq_true rfl, Nat.le_of_ble_eq_true rfl⟩).run (fun r_10 er_10 => ?_)
            subst er_10
            refine W.widen (k := 1) (n := 6) (Nat.le_of_ble_eq_true rfl) (Nat.le_of_ble_eq_true rfl) ?_
            exact vx_ret (W.iret (v := (fX0_fill (((fX0_fill ((fX0_fill xf8 8) + p0) 8) + (8 * (fJ0_bitCount p2))) + (4 * (fJ0_bitCount (p1 ||| (-2147483648))))) 8)) hx hb hr (fun t ht hW => ⟨⟨(fX0_fill (((fX0_fill ((fX0_fill xf8 8) + p0) 8) + (8 * (fJ0_bitCount p2))) + (4 * (fJ0_bitCount (p1 ||| (-2147483648))))) 8), (xk1, xk2, xk3, xf3, xf4, xf5, xf6, xf7, xf8, (fX0_fill xf8 8), (fX0_fill ((fX0_fill xf8 8) + p0) 8), ((fX0_fill ((fX0_fill xf8 8) + p0) 8) + (8 * (fJ0_bitCount p2))), (p1 ||| (-2147483648)), p2), rfl, (by rw [fX0_frame, if_neg c_1, if_pos c_2, if_pos c_3, if_pos c_4, if_neg c_5]), by rw [ht]; exact hP, va_K.moved hW.alike hK, hD⟩, hS.F ht⟩) hS.2.2 dX0_frame_144)
        · obtain ⟨sa, hstr⟩ := hZ.2.2.2.2.2.2.2.2.2.2.2.2.2.1
          exact vx_throwS (own := RX0) (cls := "java/lang/IllegalArgumentException") (names := ["java/lang/RuntimeException", "java/lang/Exception"]) hx hb hl9 hown (by decide +kernel) (by decide +kernel) (htG _ wd_110) (htG _ wd_27) hstr (vx_hat (L := vx_atS RX0 58 "java/lang/IllegalArgumentException" ["java/lang/RuntimeException", "java/lang/Exception"]) (B := [.castable "java/lang/IllegalArgumentException" "java/lang/IllegalArgumentException", .declares ⟨"java/lang/RuntimeException", "<init>", "(Ljava/lang/String;)V"⟩, .declares ⟨"java/lang/Exception", "<init>", "(Ljava/lang/String;)V"⟩, .declares ⟨"java/lang/Throwable", "<init>", "(Ljava/lang/String;)V"⟩]) (fun w hw => htG w (xg_58 w hw)) (by decide +kernel) (vx_c (va_Nw.use rfl hZ.2.2.1.1) (vx_c (va_Nw.use rfl hZ.2.2.1.2.1) (vx_c (va_Nw.use rfl hZ.2.2.1.2.2.1) (vx_c (va_Nw.use rfl hZ.2.2.1.2.2.2.1) (vx_n)))))) (by decide +kernel) hZ.1 hZ.2.1 hS (hl.1.trans hml.symm) dX0_frame_44 dX0_frame_47 dX0_frame_48 dX0_frame_50 dX0_frame_53 (fun x hx => (hEx x hx).elim) (Nat.le_of_ble_eq_true rfl) (Nat.le_of_ble_eq_true rfl) (Nat.le_of_ble_eq_true rfl) (Nat.le_of_ble_eq_true rfl) hlocks (fun t ha hsz hk => ⟨(), trivial, ⟨⟨rfl, (by rw [fX0_frame, if_neg c_1, if_pos c_2, if_pos c_3, if_neg c_4])⟩, hP.kept (fun k q hq => hk q.1 (hP k q hq).lt), va_K.moved ha hK, hD⟩, Nat.le_trans hS.1 hsz, fun q h1 h2 => (hk q (Nat.lt_of_lt_of_le h1 hS.1)).trans (hS.2.1 q h1 h2)⟩) hS.2.2 (Nat.le_of_ble_eq_true rfl) (Nat.le_of_ble_eq_true rfl)
      · obtain ⟨sa, hstr⟩ := hZ.2.2.2.2.2.2.2.2.2.2.2.2.1
        exact vx_throwS (own := RX0) (cls := "java/lang/IllegalArgumentException") (names := ["java/lang/RuntimeException", "java/lang/Exception"]) hx hb hl9 hown (by decide +kernel) (by decide +kernel) (htG _ wd_110) (htG _ wd_27) hstr (vx_hat (L := vx_atS RX0 58 "java/lang/IllegalArgumentException" ["java/lang/RuntimeException", "java/lang/Exception"]) (B := [.castable "java/lang/IllegalArgumentException" "java/lang/IllegalArgumentException", .declares ⟨"java/lang/RuntimeException", "<init>", "(Ljava/lang/String;)V"⟩, .declares ⟨"java/lang/Exception", "<init>", "(Ljava/lang/String;)V"⟩, .declares ⟨"java/lang/Throwable", "<init>", "(Ljava/lang/String;)V"⟩]) (fun w hw => htG w (xg_58 w hw)) (by decide +kernel) (vx_c (va_Nw.use rfl hZ.2.2.1.1) (vx_c (va_Nw.use rfl hZ.2.2.1.2.1) (vx_c (va_Nw.use rfl hZ.2.2.1.2.2.1) (vx_c (va_Nw.use rfl hZ.2.2.1.2.2.2.1) (vx_n)))))) (by decide +kernel) hZ.1 hZ.2.1 hS (hl.1.trans hml.symm) dX0_frame_27 dX0_frame_30 dX0_frame_31 dX0_frame_33 dX0_frame_36 (fun x hx => (hEx x hx).elim) (Nat.le_of_ble_eq_true rfl) (Nat.le_of_ble_eq_true rfl) (Nat.le_of_ble_eq_true rfl) (Nat.le_of_ble_eq_true rfl) hlocks (fun t ha hsz hk => ⟨(), trivial, ⟨⟨rfl, (by rw [fX0_frame, if_neg c_1, if_pos c_2, if_neg c_3])⟩, hP.kept (fun k q hq => hk q.1 (hP k q hq).lt), va_K.moved ha hK, hD⟩, Nat.le_trans hS.1 hsz, fun q h1 h2 => (hk q (Nat.lt_of_lt_of_le h1 hS.1)).trans (hS.2.1 q h1 h2)⟩) hS.2.2 (Nat.le_of_ble_eq_true rfl) (Nat.le_of_ble_eq_true rfl)
    · obtain ⟨sa, hstr⟩ := hZ.2.2.2.2.2.2.2.2.2.2.2.1
      exact vx_throwS (own := RX0) (cls := "java/lang/IllegalArgumentException") (names := ["java/lang/RuntimeException", "java/lang/Exception"]) hx hb hl9 hown (by decide +kernel) (by decide +kernel) (htG _ wd_110) (htG _ wd_27) hstr (vx_hat (L := vx_atS RX0 58 "java/lang/IllegalArgumentException" ["java/lang/RuntimeException", "java/lang/Exception"]) (B := [.castable "java/lang/IllegalArgumentException" "java/lang/IllegalArgumentException", .declares ⟨"java/lang/RuntimeException", "<init>", "(Ljava/lang/String;)V"⟩, .declares ⟨"java/lang/Exception", "<init>", "(Ljava/lang/String;)V"⟩, .declares ⟨"java/lang/Throwable", "<init>", "(Ljava/lang/String;)V"⟩]) (fun w hw => htG w (xg_58 w hw)) (by decide +kernel) (vx_c (va_Nw.use rfl hZ.2.2.1.1) (vx_c (va_Nw.use rfl hZ.2.2.1.2.1) (vx_c (va_Nw.use rfl hZ.2.2.1.2.2.1) (vx_c (va_Nw.use rfl hZ.2.2.1.2.2.2.1) (vx_n)))))) (by decide +kernel) hZ.1 hZ.2.1 hS (hl.1.trans hml.symm) dX0_frame_10 dX0_frame_13 dX0_frame_14 dX0_frame_16 dX0_frame_19 (fun x hx => (hEx x hx).elim) (Nat.le_of_ble_eq_true rfl) (Nat.le_of_ble_eq_true rfl) (Nat.le_of_ble_eq_true rfl) (Nat.le_of_ble_eq_true rfl) hlocks (fun t ha hsz hk => ⟨(), trivial, ⟨⟨rfl, (by rw [fX0_frame, if_neg c_1, if_neg c_2])⟩, hP.kept (fun k q hq => hk q.1 (hP k q hq).lt), va_K.moved ha hK, hD⟩, Nat.le_trans hS.1 hsz, fun q h1 h2 => (hk q (Nat.lt_of_lt_of_le h1 hS.1)).trans (hS.2.1 q h1 h2)⟩) hS.2.2 (Nat.le_of_ble_eq_true rfl) (Nat.le_of_ble_eq_true rfl)
