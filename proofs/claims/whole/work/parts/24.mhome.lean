/-- the end of the homes of the first k arguments -/
def hM (mk1 mk2 mk3 : Nat → Int32) (mf1 : Int32) : Nat → Int32
  | 0 => if mf1 = 3 then 4 else 0
  | k + 1 => if fX1_isWide mk1 mk3 (nI k) = 0 then hM mk1 mk2 mk3 mf1 k + fX1_filled (fX1_bytes mk1 mk2 (nI k)) 4 else fX1_filled (hM mk1 mk2 mk3 mf1 k) 8 + fX1_filled (fX1_bytes mk1 mk2 (nI k)) 4
def fX1_home (mk1 mk2 mk3 : Nat → Int32) (mf1 mf2 p0 : Int32) : Int32 := if mf2 ≤ p0 then hM mk1 mk2 mk3 mf1 p0.toNatClampNeg else if fX1_isWide mk1 mk3 p0 = 0 then hM mk1 mk2 mk3 mf1 p0.toNatClampNeg else fX1_filled (hM mk1 mk2 mk3 mf1 p0.toNatClampNeg) 8
abbrev wsX1_home : List Cond := .code yX1_home cX1_home 4 (some .int) :: wG
set_option maxHeartbeats 4000000 in
set_option maxRecDepth 100000 in
theorem mX1_home (l : Launch) (dC : Nat → ClassId) (dI : Nat → Nat → Nat) (mh0 mh1 mh2 mh3 : Nat) (mc1 mc2 mc3 : ClassId) (mk1 mk2 mk3 : Nat → Int32) (mf0 mf1 mf2 mf3 mf4 mf5 mf6 mf7 mf8 mf9 : Int32) (p0 : Int32) (hN : p0.toNatClampNeg ≤ 60) (hp : ¬ mf2 ≤ p0 → vp_in p0 60) : Met l yX1_home wsX1_home ({ frames := 1, cells := 0, slots := 0, locals := 21 }) (va_Pc [.ref mh0, .int p0] (fun U => va_P (dC, dI) vwCl (mW mh0 mh1 mh2 mh3 mc1 mc2 mc3 mk1 mk2 mk3 mf0 mf1 mf2 mf3 mf4 mf5 mf6 mf7 mf8 mf9) U.heap ∧ va_K (dC, dI) vwCl [(mc1, .int), (mc2, .int), (mc3, .int)] U)) (vp_Si (fun r => r = fX1_home mk1 mk2 mk3 mf1 mf2 p0)) 0 0 (fun _ => False) := by
  refine Met.ofW (cc := cX1_home) (maxL := 4) (ret := (some .int)) (by decide) rfl ?_
  intro p e s m args below meth c s₁ B hml hv
  obtain ⟨rfl, hP, hK⟩ := hv
  have hx := B.exec
  have hb := B.bytes
  have hr := B.returns
  have hts := atoms_spec (ws := wsX1_home) B.pre
  have htG := fun (w : Cond) (h : w ∈ wG) => hts w (List.mem_cons_of_mem _ h)
  have hown : s.vm.findClass RX1 = some m.cls := findClass_of_methodNamed B.named
  have hlocks := B.notSynchronized
  have loop : ∀ (n i : Nat) (x2 x3 : Int32), x3 = nI i → i ≤ p0.toNatClampNeg → p0.toNatClampNeg + 1 ≤ i + n → x2 = hM mk1 mk2 mk3 mf1 i → ∀ (ls : Array Slot), lv_has ls 4 [(0, .ref mh0), (1, .int p0), (2, .int x2), (3, .int x3)] → W p l e (headSpec wsX1_home ({ frames := 1, cells := 0, slots := 0, locals := 21 })).room s m ([.ref mh0, .int p0] : List Value).toArray below meth c s.heap [] 0 0 (MQ below (vp_Si (fun r => r = fX1_home mk1 mk2 mk3 mf1 mf2 p0)) ([.ref mh0, .int p0] : List Value).toArray s 0 0 (fun _ => False)) (F0 m 16 ls []) := by
    intro n
    induction n with
    | zero =>
      intro i x2 x3 e1 hi hn
      exact absurd hn (by omega)
    | succ n ih =>
      intro i x2 x3 e1 hi hn e2 ls hl
      refine lv_iload_n hx hb dX1_home_16 rfl (lv_at hl 3 rfl) ?_
      refine lv_iload_n hx hb dX1_home_17 rfl (lv_at hl 1 rfl) ?_
      refine lv_icmp_ge (tgt := 54) hx hb dX1_home_18 (by decide) (fun c_1 => ?_) (fun c_1 => ?_)
      · refine lv_iload_n hx hb dX1_home_54 rfl (lv_at hl 1 rfl) ?_
        refine lv_aload_n hx hb dX1_home_55 rfl (lv_at hl 0 rfl) ?_
        refine va_get (D := (dC, dI)) (ci := 1) (v := .int mf2) (C := RX1) (T := TX1) (N := 13) hx hb htG inX1 hown hK hP 0 rfl rfl 2 (by decide) (htG _ wd_333) (fun _ h9 => h9) rfl dX1_home_56 ?_
        refine lv_icmp_ge (tgt := 79) hx hb dX1_home_59 (by decide) (fun c_2 => ?_) (fun c_2 => ?_)
        · refine lv_iload_n hx hb dX1_home_79 rfl (lv_at hl 2 rfl) ?_
          exact W.iret (v := x2) hx hb hr (fun t ht hW => ⟨x2, rfl, (by rw [fX1_home, if_pos c_2, e2, ← le_clamp hi (by rw [← e1]; exact c_1)]), ht⟩) (fun q h => nomatch h) dX1_home_80
        · refine lv_aload_n hx hb dX1_home_62 rfl (lv_at hl 0 rfl) ?_
          refine lv_iload_n hx hb dX1_home_63 rfl (lv_at hl 1 rfl) ?_
          refine vp_callSi (va_runV (As := [.int p0]) (rest := []) ⟨hx, hb, hml, hown, htG⟩ (mX1_isWide l dC dI mh0 mh1 mh2 mh3 mc1 mc2 mc3 mk1 mk2 mk3 mf0 mf1 mf2 mf3 mf4 mf5 mf6 mf7 mf8 mf9 p0 (hp c_2)) (cwV 1 htG (wG_V wd_395 wd_397 wd_13 wd_23 wd_398) rfl rfl rfl (by decide +kernel) ⟨Nat.le_of_ble_eq_true rfl, Nat.le_of_ble_eq_true rfl⟩) ⟨fun a U g mk q => by obtain ⟨q0, qP, qK⟩ := q; exact ⟨q0, qP, va_K.moved (u := U) (U := U.calling g mk a) (Vm.Alike.refl U.vm) qK⟩, va_recv hK hP (ci := 1) (q0 := 0) rfl rfl, fun U hU hW => ⟨rfl, by rw [hU]; exact hP, va_K.moved hW.alike hK⟩⟩ rfl rfl hl.1 rfl (lv_room (Nat.le_of_ble_eq_true rfl)) dX1_home_64 ⟨Nat.le_of_ble_eq_true rfl, Nat.le_of_ble_eq_true rfl⟩).run (fun r_1 er_1 => ?_)
          subst er_1
          refine lv_if_eq (tgt := 79) hx hb dX1_home_67 (by decide) (fun c_3 => ?_) (fun c_3 => ?_)
          · refine lv_iload_n hx hb dX1_home_79 rfl (lv_at hl 2 rfl) ?_
            exact W.iret (v := x2) hx hb hr (fun t ht hW => ⟨x2, rfl, (by rw [fX1_home, if_neg c_2, if_pos c_3, e2, ← le_clamp hi (by rw [← e1]; exact c_1)]), ht⟩) (fun q h => nomatch h) dX1_home_80
          · refine lv_iload_n hx hb dX1_home_70 rfl (lv_at hl 2 rfl) ?_
            refine lv_bipush (v := 8) hx hb dX1_home_71 (by decide) ?_
            refine vp_callSi (va_runS (As := [.int x2, .int 8]) (rest := []) ⟨hx, hb, hml, hown, htG⟩ (mX1_filled l x2 8 (by decide)) (va_cwS 2 htG (wG_S wd_399 wd_400 wd_23 wd_401) rfl rfl rfl (by decide +kernel) ⟨Nat.le_of_ble_eq_true rfl, Nat.le_of_ble_eq_true rfl⟩) ⟨fun _ _ _ _ q => q, fun U hU hW => ⟨rfl, trivial⟩⟩ rfl rfl hl.1 rfl (lv_room (Nat.le_of_ble_eq_true rfl)) dX1_home_73 ⟨Nat.le_of_ble_eq_true rfl, Nat.le_of_ble_eq_true rfl⟩).run (fun r_2 er_2 => ?_)
            subst er_2
            refine lv_goto (tgt := 80) hx hb dX1_home_76 (by decide) ?_
            exact W.iret (v := (fX1_filled x2 8)) hx hb hr (fun t ht hW => ⟨(fX1_filled x2 8), rfl, (by rw [fX1_home, if_neg c_2, if_neg c_3, e2, ← le_clamp hi (by rw [← e1]; exact c_1)]), ht⟩) (fun q h => nomatch h) dX1_home_80
      · refine lv_aload_n hx hb dX1_home_21 rfl (lv_at hl 0 rfl) ?_
        refine lv_iload_n hx hb dX1_home_22 rfl (lv_at hl 3 rfl) ?_
        refine vp_callSi (va_runV (As := [.int x3]) (rest := []) ⟨hx, hb, hml, hown, htG⟩ (mX1_isWide l dC dI mh0 mh1 mh2 mh3 mc1 mc2 mc3 mk1 mk2 mk3 mf0 mf1 mf2 mf3 mf4 mf5 mf6 mf7 mf8 mf9 x3 (by rw [e1]; exact vp_in_nI (Nat.lt_of_lt_of_le (lt_clamp hi (by rw [← e1]; exact c_1)) hN) (by decide))) (cwV 1 htG (wG_V wd_395 wd_397 wd_13 wd_23 wd_398) rfl rfl rfl (by decide +kernel) ⟨Nat.le_of_ble_eq_true rfl, Nat.le_of_ble_eq_true rfl⟩) ⟨fun a U g mk q => by obtain ⟨q0, qP, qK⟩ := q; exact ⟨q0, qP, va_K.moved (u := U) (U := U.calling g mk a) (Vm.Alike.refl U.vm) qK⟩, va_recv hK hP (ci := 1) (q0 := 0) rfl rfl, fun U hU hW => ⟨rfl, by rw [hU]; exact hP, va_K.moved hW.alike hK⟩⟩ rfl rfl hl.1 rfl (lv_room (Nat.le_of_ble_eq_true rfl)) dX1_home_23 ⟨Nat.le_of_ble_eq_true rfl, Nat.le_of_ble_eq_true rfl⟩).run (fun r_3 er_3 => ?_)
        subst er_3
        refine lv_if_eq (tgt := 36) hx hb dX1_home_26 (by decide) (fun c_4 => ?_) (fun c_4 => ?_)
        · refine lv_iload_n hx hb dX1_home_36 rfl (lv_at hl 2 rfl) ?_
          refine lv_aload_n hx hb dX1_home_37 rfl (lv_at hl 0 rfl) ?_
          refine lv_iload_n hx hb dX1_home_38 rfl (lv_at hl 3 rfl) ?_
          refine vp_callSi (va_runV (As := [.int x3]) (rest := [.int x2]) ⟨hx, hb, hml, hown, htG⟩ (mX1_bytes l dC dI mh0 mh1 mh2 mh3 mc1 mc2 mc3 mk1 mk2 mk3 mf0 mf1 mf2 mf3 mf4 mf5 mf6 mf7 mf8 mf9 x3 (by rw [e1]; exact vp_in_nI (Nat.lt_of_lt_of_le (lt_clamp hi (by rw [← e1]; exact c_1)) hN) (by decide))) (cwV 1 htG (wG_V wd_402 wd_404 wd_14 wd_23 wd_405) rfl rfl rfl (by decide +kernel) ⟨Nat.le_of_ble_eq_true rfl, Nat.le_of_ble_eq_true rfl⟩) ⟨fun a U g mk q => by obtain ⟨q0, qP, qK⟩ := q; exact ⟨q0, qP, va_K.moved (u := U) (U := U.calling g mk a) (Vm.Alike.refl U.vm) qK⟩, va_recv hK hP (ci := 1) (q0 := 0) rfl rfl, fun U hU hW => ⟨rfl, by rw [hU]; exact hP, va_K.moved hW.alike hK⟩⟩ rfl rfl hl.1 rfl (lv_room (Nat.le_of_ble_eq_true rfl)) dX1_home_39 ⟨Nat.le_of_ble_eq_true rfl, Nat.le_of_ble_eq_true rfl⟩).run (fun r_4 er_4 => ?_)
          subst er_4
          refine lv_iconst (v := 4) hx hb dX1_home_42 (by decide) ?_
          refine vp_callSi (va_runS (As := [.int (fX1_bytes mk1 mk2 x3), .int 4]) (rest := [.int x2]) ⟨hx, hb, hml, hown, htG⟩ (mX1_filled l (fX1_bytes mk1 mk2 x3) 4 (by decide)) (va_cwS 2 htG (wG_S wd_399 wd_400 wd_23 wd_401) rfl rfl rfl (by decide +kernel) ⟨Nat.le_of_ble_eq_true rfl, Nat.le_of_ble_eq_true rfl⟩) ⟨fun _ _ _ _ q => q, fun U hU hW => ⟨rfl, trivial⟩⟩ rfl rfl hl.1 rfl (lv_room (Nat.le_of_ble_eq_true rfl)) dX1_home_43 ⟨Nat.le_of_ble_eq_true rfl, Nat.le_of_ble_eq_true rfl⟩).run (fun r_5 er_5 => ?_)
          subst er_5
          refine lv_iadd hx hb dX1_home_46 ?_
          refine lv_istore_n (lv' := [(2, .int (x2 + (fX1_filled (fX1_bytes mk1 mk2 x3) 4))), (0, .ref mh0), (1, .int p0), (3, .int x3)]) hx hb dX1_home_47 rfl hl (by decide) rfl (fun ls hl => ?_)
          refine lv_iinc (v := (x3 + 1)) (lv' := [(3, .int (x3 + 1)), (2, .int (x2 + (fX1_filled (fX1_bytes mk1 mk2 x3) 4))), (0, .ref mh0), (1, .int p0)]) hx hb dX1_home_48 hl (k := 3) rfl rfl (by decide) rfl (fun ls hl => ?_)
          refine lv_goto (tgt := 16) hx hb dX1_home_51 (by decide) ?_
          exact ih (i + 1) _ _ (by rw [e1]; exact nI_1 i) (lt_clamp hi (by rw [← e1]; exact c_1)) (by omega) (by rw [e2, hM, ← e1, if_pos c_4]) ls (lv_sub hl [2, 3, 1, 0] rfl)
        · refine lv_iload_n hx hb dX1_home_29 rfl (lv_at hl 2 rfl) ?_
          refine lv_bipush (v := 8) hx hb dX1_home_30 (by decide) ?_
          refine vp_callSi (va_runS (As := [.int x2, .int 8]) (rest := []) ⟨hx, hb, hml, hown, htG⟩ (mX1_filled l x2 8 (by decide)) (va_cwS 2 htG (wG_S wd_399 wd_400 wd_23 wd_401) rfl rfl rfl (by decide +kernel) ⟨Nat.le_of_ble_eq_true rfl, Nat.le_of_ble_eq_true rfl⟩) ⟨fun _ _ _ _ q => q, fun U hU hW => ⟨rfl, trivial⟩⟩ rfl rfl hl.1 rfl (lv_room (Nat.le_of_ble_eq_true rfl)) dX1_home_32 ⟨Nat.le_of_ble_eq_true rfl, Nat.le_of_ble_eq_true rfl⟩).run (fun r_6 er_6 => ?_)
          subst er_6
          refine lv_istore_n (lv' := [(2, .int (fX1_filled x2 8)), (0, .ref mh0), (1, .int p0), (3, .int x3)]) hx hb dX1_home_35 rfl hl (by decide) rfl (fun ls hl => ?_)
          refine lv_iload_n hx hb dX1_home_36 rfl (lv_at hl 0 rfl) ?_
          refine lv_aload_n hx hb dX1_home_37 rfl (lv_at hl 1 rfl) ?_
          refine lv_iload_n hx hb dX1_home_38 rfl (lv_at hl 3 rfl) ?_
          refine vp_callSi (va_runV (As := [.int x3]) (rest := [.int (fX1_filled x2 8)]) ⟨hx, hb, hml, hown, htG⟩ (mX1_bytes l dC dI mh0 mh1 mh2 mh3 mc1 mc2 mc3 mk1 mk2 mk3 mf0 mf1 mf2 mf3 mf4 mf5 mf6 mf7 mf8 mf9 x3 (by rw [e1]; exact vp_in_nI (Nat.lt_of_lt_of_le (lt_clamp hi (by rw [← e1]; exact c_1)) hN) (by decide))) (cwV 1 htG (wG_V wd_402 wd_404 wd_14 wd_23 wd_405) rfl rfl rfl (by decide +kernel) ⟨Nat.le_of_ble_eq_true rfl, Nat.le_of_ble_eq_true rfl⟩) ⟨fun a U g mk q => by obtain ⟨q0, qP, qK⟩ := q; exact ⟨q0, qP, va_K.moved (u := U) (U := U.calling g mk a) (Vm.Alike.refl U.vm) qK⟩, va_recv hK hP (ci := 1) (q0 := 0) rfl rfl, fun U hU hW => ⟨rfl, by rw [hU]; exact hP, va_K.moved hW.alike hK⟩⟩ rfl rfl hl.1 rfl (lv_room (Nat.le_of_ble_eq_true rfl)) dX1_home_39 ⟨Nat.le_of_ble_eq_true rfl, Nat.le_of_ble_eq_true rfl⟩).run (fun r_7 er_7 => ?_)
          subst er_7
          refine lv_iconst (v := 4) hx hb dX1_home_42 (by decide) ?_
          refine vp_callSi (va_runS (As := [.int (fX1_bytes mk1 mk2 x3), .int 4]) (rest := [.int (fX1_filled x2 8)]) ⟨hx, hb, hml, hown, htG⟩ (mX1_filled l (fX1_bytes mk1 mk2 x3) 4 (by decide)) (va_cwS 2 htG (wG_S wd_399 wd_400 wd_23 wd_401) rfl rfl rfl (by decide +kernel) ⟨Nat.le_of_ble_eq_true rfl, Nat.le_of_ble_eq_true rfl⟩) ⟨fun _ _ _ _ q => q, fun U hU hW => ⟨rfl, trivial⟩⟩ rfl rfl hl.1 rfl (lv_room (Nat.le_of_ble_eq_true rfl)) dX1_home_43 ⟨Nat.le_of_ble_eq_true rfl, Nat.le_of_ble_eq_true rfl⟩).run (fun r_8 er_8 => ?_)
          subst er_8
          refine lv_iadd hx hb dX1_home_46 ?_
          refine lv_istore_n (lv' := [(2, .int ((fX1_filled x2 8) + (fX1_filled (fX1_bytes mk1 mk2 x3) 4))), (0, .ref mh0), (1, .int p0), (3, .int x3)]) hx hb dX1_home_47 rfl hl (by decide) rfl (fun ls hl => ?_)
          refine lv_iinc (v := (x3 + 1)) (lv' := [(3, .int (x3 + 1)), (2, .int ((fX1_filled x2 8) + (fX1_filled (fX1_bytes mk1 mk2 x3) 4))), (0, .ref mh0), (1, .int p0)]) hx hb dX1_home_48 hl (k := 3) rfl rfl (by decide) rfl (fun ls hl => ?_)
          refine lv_goto (tgt := 16) hx hb dX1_home_51 (by decide) ?_
          exact ih (i + 1) _ _ (by rw [e1]; exact nI_1 i) (lt_clamp hi (by rw [← e1]; exact c_1)) (by omega) (by rw [e2, hM, ← e1, if_neg c_4]) ls (lv_sub hl [2, 3, 1, 0] rfl)
  have hl := lv_entry ([.ref mh0, .int p0]) (n := 4) (Nat.le_of_ble_eq_true rfl)
  rw [lg_entry_eq]
  generalize (lg_sl ([.ref mh0, .int p0]) ++ List.replicate (4 - (lg_sl ([.ref mh0, .int p0])).length) Slot.unset).toArray = ls at hl ⊢
  have hl : lv_has ls 4 [(0, .ref mh0), (1, .int p0)] := hl
  refine lv_aload_n hx hb dX1_home_0 rfl (lv_at hl 0 rfl) ?_
  refine va_get (D := (dC, dI)) (ci := 1) (v := .int mf1) (C := RX1) (T := TX1) (N := 13) hx hb htG inX1 hown hK hP 0 rfl rfl 1 (by decide) (htG _ wd_332) (fun _ h9 => h9) rfl dX1_home_1 ?_
  refine lv_iconst (v := 3) hx hb dX1_home_4 (by decide) ?_
  refine lv_icmp_ne (tgt := 12) hx hb dX1_home_5 (by decide) (fun c_5 => ?_) (fun c_5 => ?_)
  · refine lv_iconst (v := 0) hx hb dX1_home_12 (by decide) ?_
    refine lv_istore_n (lv' := [(2, .int 0), (0, .ref mh0), (1, .int p0)]) hx hb dX1_home_13 rfl hl (by decide) rfl (fun ls hl => ?_)
    refine lv_iconst (v := 0) hx hb dX1_home_14 (by decide) ?_
    refine lv_istore_n (lv' := [(3, .int 0), (2, .int 0), (0, .ref mh0), (1, .int p0)]) hx hb dX1_home_15 rfl hl (by decide) rfl (fun ls hl => ?_)
    exact loop (p0.toNatClampNeg + 1) 0 _ _ nI_0.symm (Nat.zero_le _) (by omega) (by rw [hM, if_neg c_5]) ls (lv_sub hl [2, 3, 1, 0] rfl)
  · refine lv_iconst (v := 4) hx hb dX1_home_8 (by decide) ?_
    refine lv_goto (tgt := 13) hx hb dX1_home_9 (by decide) ?_
    refine lv_istore_n (lv' := [(2, .int 4), (0, .ref mh0), (1, .int p0)]) hx hb dX1_home_13 rfl hl (by decide) rfl (fun ls hl => ?_)
    refine lv_iconst (v := 0) hx hb dX1_home_14 (by decide) ?_
    refine lv_istore_n (lv' := [(3, .int 0), (2, .int 4), (0, .ref mh0), (1, .int p0)]) hx hb dX1_home_15 rfl hl (by decide) rfl (fun ls hl => ?_)
    exact loop (p0.toNatClampNeg + 1) 0 _ _ nI_0.symm (Nat.zero_le _) (by omega) (by rw [hM, if_pos c_5]) ls (lv_sub hl [2, 3, 1, 0] rfl)
