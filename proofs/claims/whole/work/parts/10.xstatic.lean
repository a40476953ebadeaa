def fX0_fill (p0 p1 : Int32) : Int32 :=
  (((p0 + p1) - 1) &&& (-p1))

abbrev wsX0_fill : List Cond := .code yX0_fill cX0_fill 2 (some .int) :: wG
set_option maxHeartbeats 4000000 in
set_option maxRecDepth 100000 in
theorem mX0_fill (l : Launch) (p0 p1 : Int32)  : Met l yX0_fill wsX0_fill ({ frames := 0, cells := 0, slots := 0, locals := 0 }) (va_Pc [.int p0, .int p1] (fun _ => True)) (vp_Si (fun r => r = fX0_fill p0 p1)) 0 0 (fun _ => False) := by
  refine Met.ofW (cc := cX0_fill) (maxL := 2) (ret := (some .int)) (by decide) rfl ?_
  intro p e s m args below meth c s₁ B hml hv
  obtain ⟨rfl, -⟩ := hv
  have hx := B.exec
  have hb := B.bytes
  have hr := B.returns
  have hts := atoms_spec (ws := wsX0_fill) B.pre
  have htG := fun (w : Cond) (h : w ∈ wG) => hts w (List.mem_cons_of_mem _ h)
  have hown : s.vm.findClass RX0 = some m.cls := findClass_of_methodNamed B.named
  have hlocks := B.notSynchronized
  have hl := lv_entry ([.int p0, .int p1]) (n := 2) (Nat.le_of_ble_eq_true rfl)
  rw [lg_entry_eq]
  generalize (lg_sl ([.int p0, .int p1]) ++ List.replicate (2 - (lg_sl ([.int p0, .int p1])).length) Slot.unset).toArray = ls at hl ⊢
  have hl : lv_has ls 2 [(0, .int p0), (1, .int p1)] := hl
  refine lv_iload_n hx hb dX0_fill_0 rfl (lv_at hl 0 rfl) ?_
  refine lv_iload_n hx hb dX0_fill_1 rfl (lv_at hl 1 rfl) ?_
  refine lv_iadd hx hb dX0_fill_2 ?_
  refine lv_iconst (v := 1) hx hb dX0_fill_3 (by decide) ?_
  refine lv_isub hx hb dX0_fill_4 ?_
  refine lv_iload_n hx hb dX0_fill_5 rfl (lv_at hl 1 rfl) ?_
  refine lv_ineg hx hb dX0_fill_6 ?_
  refine lv_iand hx hb dX0_fill_7 ?_
  exact W.iret (v := (((p0 + p1) - 1) &&& (-p1))) hx hb hr (fun t ht hW => ⟨(((p0 + p1) - 1) &&& (-p1)), rfl, (by rw [fX0_fill]), ht⟩) (fun q h => nomatch h) dX0_fill_8

def fX0_isRecord (p0 p1 : Int32) : Int32 :=
  if p1 = 1 then (if p0 < 1 then 0
    else if 65536 < p0 then 0
      else if (fX0_fill p0 p1) = p0 then 1
        else 0)
  else if p1 = 2 then (if p0 < 1 then 0
      else if 65536 < p0 then 0
        else if (fX0_fill p0 p1) = p0 then 1
          else 0)
    else if p1 = 4 then (if p0 < 1 then 0
        else if 65536 < p0 then 0
          else if (fX0_fill p0 p1) = p0 then 1
            else 0)
      else if p1 = 8 then (if p0 < 1 then 0
          else if 65536 < p0 then 0
            else if (fX0_fill p0 p1) = p0 then 1
              else 0)
        else 0
theorem bbX0_isRecord {p0 p1 : Int32} : fX0_isRecord p0 p1 = 0 ∨ fX0_isRecord p0 p1 = 1 := by
  unfold fX0_isRecord
  repeat' split
  all_goals first | exact Or.inl rfl | exact Or.inr rfl
theorem nbX0_isRecord {p0 p1 : Int32} : narrow .boolean (.int (fX0_isRecord p0 p1)) = .int (fX0_isRecord p0 p1) := nb_of bbX0_isRecord

abbrev wsX0_isRecord : List Cond := .code yX0_isRecord cX0_isRecord 2 (some .boolean) :: wG
set_option maxHeartbeats 4000000 in
set_option maxRecDepth 100000 in
theorem mX0_isRecord (l : Launch) (p0 p1 : Int32)  : Met l yX0_isRecord wsX0_isRecord ({ frames := 1, cells := 0, slots := 0, locals := 21 }) (va_Pc [.int p0, .int p1] (fun _ => True)) (vp_Si (fun r => r = fX0_isRecord p0 p1)) 0 0 (fun _ => False) := by
  refine Met.ofW (cc := cX0_isRecord) (maxL := 2) (ret := (some .boolean)) (by decide) rfl ?_
  intro p e s m args below meth c s₁ B hml hv
  obtain ⟨rfl, -⟩ := hv
  have hx := B.exec
  have hb := B.bytes
  have hr := B.returns
  have hts := atoms_spec (ws := wsX0_isRecord) B.pre
  have htG := fun (w : Cond) (h : w ∈ wG) => hts w (List.mem_cons_of_mem _ h)
  have hown : s.vm.findClass RX0 = some m.cls := findClass_of_methodNamed B.named
  have hlocks := B.notSynchronized
  have hl := lv_entry ([.int p0, .int p1]) (n := 2) (Nat.le_of_ble_eq_true rfl)
  rw [lg_entry_eq]
  generalize (lg_sl ([.int p0, .int p1]) ++ List.replicate (2 - (lg_sl ([.int p0, .int p1])).length) Slot.unset).toArray = ls at hl ⊢
  have hl : lv_has ls 2 [(0, .int p0), (1, .int p1)] := hl
  refine lv_iload_n hx hb dX0_isRecord_0 rfl (lv_at hl 1 rfl) ?_
  refine lv_iconst (v := 1) hx hb dX0_isRecord_1 (by decide) ?_
  refine lv_icmp_eq (tgt := 23) hx hb dX0_isRecord_2 (by decide) (fun c_1 => ?_) (fun c_1 => ?_)
  · refine lv_iload_n hx hb dX0_isRecord_23 rfl (lv_at hl 0 rfl) ?_
    refine lv_iconst (v := 1) hx hb dX0_isRecord_24 (by decide) ?_
    refine lv_icmp_lt (tgt := 47) hx hb dX0_isRecord_25 (by decide) (fun c_2 => ?_) (fun c_2 => ?_)
    · refine lv_iconst (v := 0) hx hb dX0_isRecord_47 (by decide) ?_
      exact W.zret (v := 0) hx hb hr rfl (fun t ht hW => ⟨0, rfl, (by rw [fX0_isRecord, if_pos c_1, if_pos c_2]), ht⟩) (fun q h => nomatch h) dX0_isRecord_48
    · refine lv_iload_n hx hb dX0_isRecord_28 rfl (lv_at hl 0 rfl) ?_
      refine lv_ldc (v := 65536) hx hb hown (htG _ wd_181) dX0_isRecord_29 ?_
      refine lv_icmp_gt (tgt := 47) hx hb dX0_isRecord_31 (by decide) (fun c_3 => ?_) (fun c_3 => ?_)
      · refine lv_iconst (v := 0) hx hb dX0_isRecord_47 (by decide) ?_
        exact W.zret (v := 0) hx hb hr rfl (fun t ht hW => ⟨0, rfl, (by rw [fX0_isRecord, if_pos c_1, if_neg c_2, if_pos c_3]), ht⟩) (fun q h => nomatch h) dX0_isRecord_48
      · refine lv_iload_n hx hb dX0_isRecord_34 rfl (lv_at hl 0 rfl) ?_
        refine lv_iload_n hx hb dX0_isRecord_35 rfl (lv_at hl 1 rfl) ?_
        refine vp_callSi (va_runS (As := [.int p0, .int p1]) (rest := []) ⟨hx, hb, hml, hown, htG⟩ (mX0_fill l p0 p1) (va_cwS 2 htG (wG_S wd_92 wd_93 wd_22 wd_94) rfl rfl rfl (by decide +kernel) ⟨Nat.le_of_ble_eq_true rfl, Nat.le_of_ble_eq_true rfl⟩) ⟨fun _ _ _ _ q => q, fun U hU hW => ⟨rfl, trivial⟩⟩ rfl rfl hl.1 rfl (lv_room (Nat.le_of_ble_eq_true rfl)) dX0_isRecord_36 ⟨Nat.le_of_ble_eq_true rfl, Nat.le_of_ble_eq_true rfl⟩).run (fun r_1 er_1 => ?_)
        subst er_1
        refine lv_iload_n hx hb dX0_isRecord_39 rfl (lv_at hl 0 rfl) ?_
        refine lv_icmp_ne (tgt := 47) hx hb dX0_isRecord_40 (by decide) (fun c_4 => ?_) (fun c_4 => ?_)
        · refine lv_iconst (v := 0) hx hb dX0_isRecord_47 (by decide) ?_
          exact W.zret (v := 0) hx hb hr rfl (fun t ht hW => ⟨0, rfl, (by rw [fX0_isRecord, if_pos c_1, if_neg c_2, if_neg c_3, if_neg c_4]), ht⟩) (fun q h => nomatch h) dX0_isRecord_48
        · refine lv_iconst (v := 1) hx hb dX0_isRecord_43 (by decide) ?_
          refine lv_goto (tgt := 48) hx hb dX0_isRecord_44 (by decide) ?_
          exact W.zret (v := 1) hx hb hr rfl (fun t ht hW => ⟨1, rfl, (by rw [fX0_isRecord, if_pos c_1, if_neg c_2, if_neg c_3, if_pos c_4]), ht⟩) (fun q h => nomatch h) dX0_isRecord_48
  · refine lv_iload_n hx hb dX0_isRecord_5 rfl (lv_at hl 1 rfl) ?_
    refine lv_iconst (v := 2) hx hb dX0_isRecord_6 (by decide) ?_
    refine lv_icmp_eq (tgt := 23) hx hb dX0_isRecord_7 (by decide) (fun c_5 => ?_) (fun c_5 => ?_)
    · refine lv_iload_n hx hb dX0_isRecord_23 rfl (lv_at hl 0 rfl) ?_
      refine lv_iconst (v := 1) hx hb dX0_isRecord_24 (by decide) ?_
      refine lv_icmp_lt (tgt := 47) hx hb dX0_isRecord_25 (by decide) (fun c_6 => ?_) (fun c_6 => ?_)
      · refine lv_iconst (v := 0) hx hb dX0_isRecord_47 (by decide) ?_
        exact W.zret (v := 0) hx hb hr rfl (fun t ht hW => ⟨0, rfl, (by rw [fX0_isRecord, if_neg c_1, if_pos c_5, if_pos c_6]), ht⟩) (fun q h => nomatch h) dX0_isRecord_48
      · refine lv_iload_n hx hb dX0_isRecord_28 rfl (lv_at hl 0 rfl) ?_
        refine lv_ldc (v := 65536) hx hb hown (htG _ wd_181) dX0_isRecord_29 ?_
        refine lv_icmp_gt (tgt := 47) hx hb dX0_isRecord_31 (by decide) (fun c_7 => ?_) (fun c_7 => ?_)
        · refine lv_iconst (v := 0) hx hb dX0_isRecord_47 (by decide) ?_
          exact W.zret (v := 0) hx hb hr rfl (fun t ht hW => ⟨0, rfl, (by rw [fX0_isRecord, if_neg c_1, if_pos c_5, if_neg c_6, if_pos c_7]), ht⟩) (fun q h => nomatch h) dX0_isRecord_48
        · refine lv_iload_n hx hb dX0_isRecord_34 rfl (lv_at hl 0 rfl) ?_
          refine lv_iload_n hx hb dX0_isRecord_35 rfl (lv_at hl 1 rfl) ?_
          refine vp_callSi (va_runS (As := [.int p0, .int p1]) (rest := []) ⟨hx, hb, hml, hown, htG⟩ (mX0_fill l p0 p1) (va_cwS 2 htG (wG_S wd_92 wd_93 wd_22 wd_94) rfl rfl rfl (by decide +kernel) ⟨Nat.le_of_ble_eq_true rfl, Nat.le_of_ble_eq_true rfl⟩) ⟨fun _ _ _ _ q => q, fun U hU hW => ⟨rfl, trivial⟩⟩ rfl rfl hl.1 rfl (lv_room (Nat.le_of_ble_eq_true rfl)) dX0_isRecord_36 ⟨Nat.le_of_ble_eq_true rfl, Nat.le_of_ble_eq_true rfl⟩).run (fun r_2 er_2 => ?_)
          subst er_2
          refine lv_iload_n hx hb dX0_isRecord_39 rfl (lv_at hl 0 rfl) ?_
          refine lv_icmp_ne (tgt := 47) hx hb dX0_isRecord_40 (by decide) (fun c_8 => ?_) (fun c_8 => ?_)
          · refine lv_iconst (v := 0) hx hb dX0_isRecord_47 (by decide) ?_
            exact W.zret (v := 0) hx hb hr rfl (fun t ht hW => ⟨0, rfl, (by rw [fX0_isRecord, if_neg c_1, if_pos c_5, if_neg c_6, if_neg c_7, if_neg c_8]), ht⟩) (fun q h => nomatch h) dX0_isRecord_48
          · refine lv_iconst (v := 1) hx hb dX0_isRecord_43 (by decide) ?_
            refine lv_goto (tgt := 48) hx hb dX0_isRecord_44 (by decide) ?_
            exact W.zret (v := 1) hx hb hr rfl (fun t ht hW => ⟨1, rfl, (by rw [fX0_isRecord, if_neg c_1, if_pos c_5, if_neg c_6, if_neg c_7, if_pos c_8]), ht⟩) (fun q h => nomatch h) dX0_isRecord_48
    · refine lv_iload_n hx hb dX0_isRecord_10 rfl (lv_at hl 1 rfl) ?_
      refine lv_iconst (v := 4) hx hb dX0_isRecord_11 (by decide) ?_
      refine lv_icmp_eq (tgt := 23) hx hb dX0_isRecord_12 (by decide) (fun c_9 => ?_) (fun c_9 => ?_)
      · refine lv_iload_n hx hb dX0_isRecord_23 rfl (lv_at hl 0 rfl) ?_
        refine lv_iconst (v := 1) hx hb dX0_isRecord_24 (by decide) ?_
        refine lv_icmp_lt (tgt := 47) hx hb dX0_isRecord_25 (by decide) (fun c_10 => ?_) (fun c_10 => ?_)
        · refine lv_iconst (v := 0) hx hb dX0_isRecord_47 (by decide) ?_
          exact W.zret (v := 0) hx hb hr rfl (fun t ht hW => ⟨0, rfl, (by rw [fX0_isRecord, if_neg c_1, if_neg c_5, if_pos c_9, if_pos c_10]), ht⟩) (fun q h => nomatch h) dX0_isRecord_48
        · refine lv_iload_n hx hb dX0_isRecord_28 rfl (lv_at hl 0 rfl) ?_
          refine lv_ldc (v := 65536) hx hb hown (htG _ wd_181) dX0_isRecord_29 ?_
          refine lv_icmp_gt (tgt := 47) hx hb dX0_isRecord_31 (by decide) (fun c_11 => ?_) (fun c_11 => ?_)
          · refine lv_iconst (v := 0) hx hb dX0_isRecord_47 (by decide) ?_
            exact W.zret (v := 0) hx hb hr rfl (fun t ht hW => ⟨0, rfl, (by rw [fX0_isRecord, if_neg c_1, if_neg c_5, if_pos c_9, if_neg c_10, if_pos c_11]), ht⟩) (fun q h => nomatch h) dX0_isRecord_48
          · refine lv_iload_n hx hb dX0_isRecord_34 rfl (lv_at hl 0 rfl) ?_
            refine lv_iload_n hx hb dX0_isRecord_35 rfl (lv_at hl 1 rfl) ?_
            refine vp_callSi (va_runS (As := [.int p0, .int p1]) (rest := []) ⟨hx, hb, hml, hown, htG⟩ (mX0_fill l p0 p1) (va_cwS 2 htG (wG_S wd_92 wd_93 wd_22 wd_94) rfl rfl rfl (by decide +kernel) ⟨Nat.le_of_ble_eq_true rfl, Nat.le_of_ble_eq_true rfl⟩) ⟨fun _ _ _ _ q => q, fun U hU hW => ⟨rfl, trivial⟩⟩ rfl rfl hl.1 rfl (lv_room (Nat.le_of_ble_eq_true rfl)) dX0_isRecord_36 ⟨Nat.le_of_ble_eq_true rfl, Nat.le_of_ble_eq_true rfl⟩).run (fun r_3 er_3 => ?_)
            subst er_3
            refine lv_iload_n hx hb dX0_isRecord_39 rfl (lv_at hl 0 rfl) ?_
            refine lv_icmp_ne (tgt := 47) hx hb dX0_isRecord_40 (by decide) (fun c_12 => ?_) (fun c_12 => ?_)
            · refine lv_iconst (v := 0) hx hb dX0_isRecord_47 (by decide) ?_
              exact W.zret (v := 0) hx hb hr rfl (fun t ht hW => ⟨0, rfl, (by rw [fX0_isRecord, if_neg c_1, if_neg c_5, if_pos c_9, if_neg c_10, if_neg c_11, if_neg c_12]), ht⟩) (fun q h => nomatch h) dX0_isRecord_48
            · refine lv_iconst (v := 1) hx hb dX0_isRecord_43 (by decide) ?_
              refine lv_goto (tgt := 48) hx hb dX0_isRecord_44 (by decide) ?_
              exact W.zret (v := 1) hx hb hr rfl (fun t ht hW => ⟨1, rfl, (by rw [fX0_isRecord, if_neg c_1, if_neg c_5, if_pos c_9, if_neg c_10, if_neg c_11, if_pos c_12]), ht⟩) (fun q h => nomatch h) dX0_isRecord_48
      · refine lv_iload_n hx hb dX0_isRecord_15 rfl (lv_at hl 1 rfl) ?_
        refine lv_bipush (v := 8) hx hb dX0_isRecord_16 (by decide) ?_
        refine lv_icmp_eq (tgt := 23) hx hb dX0_isRecord_18 (by decide) (fun c_13 => ?_) (fun c_13 => ?_)
        · refine lv_iload_n hx hb dX0_isRecord_23 rfl (lv_at hl 0 rfl) ?_
          refine lv_iconst (v := 1) hx hb dX0_isRecord_24 (by decide) ?_
          refine lv_icmp_lt (tgt := 47) hx hb dX0_isRecord_25 (by decide) (fun c_14 => ?_) (fun c_14 => ?_)
          · refine lv_iconst (v := 0) hx hb dX0_isRecord_47 (by decide) ?_
            exact W.zret (v := 0) hx hb hr rfl (fun t ht hW => ⟨0, rfl, (by rw [fX0_isRecord, if_neg c_1, if_neg c_5, if_neg c_9, if_pos c_13, if_pos c_14]), ht⟩) (fun q h => nomatch h) dX0_isRecord_48
          · refine lv_iload_n hx hb dX0_isRecord_28 rfl (lv_at hl 0 rfl) ?_
            refine lv_ldc (v := 65536) hx hb hown (htG _ wd_181) dX0_isRecord_29 ?_
            refine lv_icmp_gt (tgt := 47) hx hb dX0_isRecord_31 (by decide) (fun c_15 => ?_) (fun c_15 => ?_)
            · refine lv_iconst (v := 0) hx hb dX0_isRecord_47 (by decide) ?_
              exact W.zret (v := 0) hx hb hr rfl (fun t ht hW => ⟨0, rfl, (by rw [fX0_isRecord, if_neg c_1, if_neg c_5, if_neg c_9, if_pos c_13, if_neg c_14, if_pos c_15]), ht⟩) (fun q h => nomatch h) dX0_isRecord_48
            · refine lv_iload_n hx hb dX0_isRecord_34 rfl (lv_at hl 0 rfl) ?_
              refine lv_iload_n hx hb dX0_isRecord_35 rfl (lv_at hl 1 rfl) ?_
              refine vp_callSi (va_runS (As := [.int p0, .int p1]) (rest := []) ⟨hx, hb, hml, hown, htG⟩ (mX0_fill l p0 p1) (va_cwS 2 htG (wG_S wd_92 wd_93 wd_22 wd_94) rfl rfl rfl (by decide +kernel) ⟨Nat.le_of_ble_eq_true rfl, Nat.le_of_ble_eq_true rfl⟩) ⟨fun _ _ _ _ q => q, fun U hU hW => ⟨rfl, trivial⟩⟩ rfl rfl hl.1 rfl (lv_room (Nat.le_of_ble_eq_true rfl)) dX0_isRecord_36 ⟨Nat.le_of_ble_eq_true rfl, Nat.le_of_ble_eq_true rfl⟩).run (fun r_4 er_4 => ?_)
              subst er_4
              refine lv_iload_n hx hb dX0_isRecord_39 rfl (lv_at hl 0 rfl) ?_
              refine lv_icmp_ne (tgt := 47) hx hb dX0_isRecord_40 (by decide) (fun c_16 => ?_) (fun c_16 => ?_)
              · refine lv_iconst (v := 0) hx hb dX0_isRecord_47 (by decide) ?_
                exact W.zret (v := 0) hx hb hr rfl (fun t ht hW => ⟨0, rfl, (by rw [fX0_isRecord, if_neg c_1, if_neg c_5, if_neg c_9, if_pos c_13, if_neg c_14, if_neg c_15, if_neg c_16]), ht⟩) (fun q h => nomatch h) dX0_isRecord_48
              · refine lv_iconst (v := 1) hx hb dX0_isRecord_43 (by decide) ?_
                refine lv_goto (tgt := 48) hx hb dX0_isRecord_44 (by decide) ?_
                exact W.zret (v := 1) hx hb hr rfl (fun t ht hW => ⟨1, rfl, (by rw [fX0_isRecord, if_neg c_1, if_neg c_5, if_neg c_9, if_pos c_13, if_neg c_14, if_neg c_15, if_pos c_16]), ht⟩) (fun q h => nomatch h) dX0_isRecord_48
        · refine lv_iconst (v := 0) hx hb dX0_isRecord_21 (by decide) ?_
          exact W.zret (v := 0) hx hb hr rfl (fun t ht hW => ⟨0, rfl, (by rw [fX0_isRecord, if_neg c_1, if_neg c_5, if_neg c_9, if_neg c_13]), ht⟩) (fun q h => nomatch h) dX0_isRecord_22

def fX0_bytesOf (p0 p1 : Int32) : Int32 :=
  if p0 = 3 then p1
  else if p0 = 2 then 8
    else 4

abbrev wsX0_bytesOf : List Cond := .code yX0_bytesOf cX0_bytesOf 2 (some .int) :: wG
set_option maxHeartbeats 4000000 in
set_option maxRecDepth 100000 in
theorem mX0_bytesOf (l : Launch) (p0 p1 : Int32)  : Met l yX0_bytesOf wsX0_bytesOf ({ frames := 0, cells := 0, slots := 0, locals := 0 }) (va_Pc [.int p0, .int p1] (fun _ => True)) (vp_Si (fun r => r = fX0_bytesOf p0 p1)) 0 0 (fun _ => False) := by
  refine Met.ofW (cc := cX0_bytesOf) (maxL := 2) (ret := (some .int)) (by decide) rfl ?_
  intro p e s m args below meth c s₁ B hml hv
  obtain ⟨rfl, -⟩ := hv
  have hx := B.exec
  have hb := B.bytes
  have hr := B.returns
  have hts := atoms_spec (ws := wsX0_bytesOf) B.pre
  have htG := fun (w : Cond) (h : w ∈ wG) => hts w (List.mem_cons_of_mem _ h)
  have hown : s.vm.findClass RX0 = some m.cls := findClass_of_methodNamed B.named
  have hlocks := B.notSynchronized
  have hl := lv_entry ([.int p0, .int p1]) (n := 2) (Nat.le_of_ble_eq_true rfl)
  rw [lg_entry_eq]
  generalize (lg_sl ([.int p0, .int p1]) ++ List.replicate (2 - (lg_sl ([.int p0, .int p1])).length) Slot.unset).toArray = ls at hl ⊢
  have hl : lv_has ls 2 [(0, .int p0), (1, .int p1)] := hl
  refine lv_iload_n hx hb dX0_bytesOf_0 rfl (lv_at hl 0 rfl) ?_
  refine lv_iconst (v := 3) hx hb dX0_bytesOf_1 (by decide) ?_
  refine lv_icmp_ne (tgt := 7) hx hb dX0_bytesOf_2 (by decide) (fun c_1 => ?_) (fun c_1 => ?_)
  · refine lv_iload_n hx hb dX0_bytesOf_7 rfl (lv_at hl 0 rfl) ?_
    refine lv_iconst (v := 2) hx hb dX0_bytesOf_8 (by decide) ?_
    refine lv_icmp_ne (tgt := 17) hx hb dX0_bytesOf_9 (by decide) (fun c_2 => ?_) (fun c_2 => ?_)
    · refine lv_iconst (v := 4) hx hb dX0_bytesOf_17 (by decide) ?_
      exact W.iret (v := 4) hx hb hr (fun t ht hW => ⟨4, rfl, (by rw [fX0_bytesOf, if_neg c_1, if_neg c_2]), ht⟩) (fun q h => nomatch h) dX0_bytesOf_18
    · refine lv_bipush (v := 8) hx hb dX0_bytesOf_12 (by decide) ?_
      refine lv_goto (tgt := 18) hx hb dX0_bytesOf_14 (by decide) ?_
      exact W.iret (v := 8) hx hb hr (fun t ht hW => ⟨8, rfl, (by rw [fX0_bytesOf, if_neg c_1, if_pos c_2]), ht⟩) (fun q h => nomatch h) dX0_bytesOf_18
  · refine lv_iload_n hx hb dX0_bytesOf_5 rfl (lv_at hl 1 rfl) ?_
    exact W.iret (v := p1) hx hb hr (fun t ht hW => ⟨p1, rfl, (by rw [fX0_bytesOf, if_pos c_1]), ht⟩) (fun q h => nomatch h) dX0_bytesOf_6

def fX0_homeAlignment (p0 p1 : Int32) : Int32 :=
  if p0 = 2 then 8
  else if p0 = 3 then (if p1 = 8 then 8
      else 4)
    else 4

abbrev wsX0_homeAlignment : List Cond := .code yX0_homeAlignment cX0_homeAlignment 2 (some .int) :: wG
set_option maxHeartbeats 4000000 in
set_option maxRecDepth 100000 in
theorem mX0_homeAlignment (l : Launch) (p0 p1 : Int32)  : Met l yX0_homeAlignment wsX0_homeAlignment ({ frames := 0, cells := 0, slots := 0, locals := 0 }) (va_Pc [.int p0, .int p1] (fun _ => True)) (vp_Si (fun r => r = fX0_homeAlignment p0 p1)) 0 0 (fun _ => False) := by
  refine Met.ofW (cc := cX0_homeAlignment) (maxL := 2) (ret := (some .int)) (by decide) rfl ?_
  intro p e s m args below meth c s₁ B hml hv
  obtain ⟨rfl, -⟩ := hv
  have hx := B.exec
  have hb := B.bytes
  have hr := B.returns
  have hts := atoms_spec (ws := wsX0_homeAlignment) B.pre
  have htG := fun (w : Cond) (h : w ∈ wG) => hts w (List.mem_cons_of_mem _ h)
  have hown : s.vm.findClass RX0 = some m.cls := findClass_of_methodNamed B.named
  have hlocks := B.notSynchronized
  have hl := lv_entry ([.int p0, .int p1]) (n := 2) (Nat.le_of_ble_eq_true rfl)
  rw [lg_entry_eq]
  generalize (lg_sl ([.int p0, .int p1]) ++ List.replicate (2 - (lg_sl ([.int p0, .int p1])).length) Slot.unset).toArray = ls at hl ⊢
  have hl : lv_has ls 2 [(0, .int p0), (1, .int p1)] := hl
  refine lv_iload_n hx hb dX0_homeAlignment_0 rfl (lv_at hl 0 rfl) ?_
  refine lv_iconst (v := 2) hx hb dX0_homeAlignment_1 (by decide) ?_
  refine lv_icmp_eq (tgt := 16) hx hb dX0_homeAlignment_2 (by decide) (fun c_1 => ?_) (fun c_1 => ?_)
  · refine lv_bipush (v := 8) hx hb dX0_homeAlignment_16 (by decide) ?_
    refine lv_goto (tgt := 22) hx hb dX0_homeAlignment_18 (by decide) ?_
    exact W.iret (v := 8) hx hb hr (fun t ht hW => ⟨8, rfl, (by rw [fX0_homeAlignment, if_pos c_1]), ht⟩) (fun q h => nomatch h) dX0_homeAlignment_22
  · refine lv_iload_n hx hb dX0_homeAlignment_5 rfl (lv_at hl 0 rfl) ?_
    refine lv_iconst (v := 3) hx hb dX0_homeAlignment_6 (by decide) ?_
    refine lv_icmp_ne (tgt := 21) hx hb dX0_homeAlignment_7 (by decide) (fun c_2 => ?_) (fun c_2 => ?_)
    · refine lv_iconst (v := 4) hx hb dX0_homeAlignment_21 (by decide) ?_
      exact W.iret (v := 4) hx hb hr (fun t ht hW => ⟨4, rfl, (by rw [fX0_homeAlignment, if_neg c_1, if_neg c_2]), ht⟩) (fun q h => nomatch h) dX0_homeAlignment_22
    · refine lv_iload_n hx hb dX0_homeAlignment_10 rfl (lv_at hl 1 rfl) ?_
      refine lv_bipush (v := 8) hx hb dX0_homeAlignment_11 (by decide) ?_
      refine lv_icmp_ne (tgt := 21) hx hb dX0_homeAlignment_13 (by decide) (fun c_3 => ?_) (fun c_3 => ?_)
      · refine lv_iconst (v := 4) hx hb dX0_homeAlignment_21 (by decide) ?_
        exact W.iret (v := 4) hx hb hr (fun t ht hW => ⟨4, rfl, (by rw [fX0_homeAlignment, if_neg c_1, if_pos c_2, if_neg c_3]), ht⟩) (fun q h => nomatch h) dX0_homeAlignment_22
      · refine lv_bipush (v := 8) hx hb dX0_homeAlignment_16 (by decide) ?_
        refine lv_goto (tgt := 22) hx hb dX0_homeAlignment_18 (by decide) ?_
        exact W.iret (v := 8) hx hb hr (fun t ht hW => ⟨8, rfl, (by rw [fX0_homeAlignment, if_neg c_1, if_pos c_2, if_pos c_3]), ht⟩) (fun q h => nomatch h) dX0_homeAlignment_22

def fX0_registerOrMemory (p0 : Int32) : Int32 :=
  if 16 ≤ p0 then (-1)
  else (4 + (p0 / 4))

abbrev wsX0_registerOrMemory : List Cond := .code yX0_registerOrMemory cX0_registerOrMemory 1 (some .int) :: wG
set_option maxHeartbeats 4000000 in
set_option maxRecDepth 100000 in
theorem mX0_registerOrMemory (l : Launch) (p0 : Int32)  : Met l yX0_registerOrMemory wsX0_registerOrMemory ({ frames := 0, cells := 0, slots := 0, locals := 0 }) (va_Pc [.int p0] (fun _ => True)) (vp_Si (fun r => r = fX0_registerOrMemory p0)) 0 0 (fun _ => False) := by
  refine Met.ofW (cc := cX0_registerOrMemory) (maxL := 1) (ret := (some .int)) (by decide) rfl ?_
  intro p e s m args below meth c s₁ B hml hv
  obtain ⟨rfl, -⟩ := hv
  have hx := B.exec
  have hb := B.bytes
  have hr := B.returns
  have hts := atoms_spec (ws := wsX0_registerOrMemory) B.pre
  have htG := fun (w : Cond) (h : w ∈ wG) => hts w (List.mem_cons_of_mem _ h)
  have hown : s.vm.findClass RX0 = some m.cls := findClass_of_methodNamed B.named
  have hlocks := B.notSynchronized
  have hl := lv_entry ([.int p0]) (n := 1) (Nat.le_of_ble_eq_true rfl)
  rw [lg_entry_eq]
  generalize (lg_sl ([.int p0]) ++ List.replicate (1 - (lg_sl ([.int p0])).length) Slot.unset).toArray = ls at hl ⊢
  have hl : lv_has ls 1 [(0, .int p0)] := hl
  refine lv_iload_n hx hb dX0_registerOrMemory_0 rfl (lv_at hl 0 rfl) ?_
  refine lv_bipush (v := 16) hx hb dX0_registerOrMemory_1 (by decide) ?_
  refine lv_icmp_ge (tgt := 14) hx hb dX0_registerOrMemory_3 (by decide) (fun c_1 => ?_) (fun c_1 => ?_)
  · refine lv_iconst (v := (-1)) hx hb dX0_registerOrMemory_14 (by decide) ?_
    exact W.iret (v := (-1)) hx hb hr (fun t ht hW => ⟨(-1), rfl, (by rw [fX0_registerOrMemory, if_pos c_1]), ht⟩) (fun q h => nomatch h) dX0_registerOrMemory_15
  · refine lv_iconst (v := 4) hx hb dX0_registerOrMemory_6 (by decide) ?_
    refine lv_iload_n hx hb dX0_registerOrMemory_7 rfl (lv_at hl 0 rfl) ?_
    refine lv_iconst (v := 4) hx hb dX0_registerOrMemory_8 (by decide) ?_
    refine lv_idiv hx hb dX0_registerOrMemory_9 (by decide) ?_
    refine lv_iadd hx hb dX0_registerOrMemory_10 ?_
    refine lv_goto (tgt := 15) hx hb dX0_registerOrMemory_11 (by decide) ?_
    exact W.iret (v := (4 + (p0 / 4))) hx hb hr (fun t ht hW => ⟨(4 + (p0 / 4)), rfl, (by rw [fX0_registerOrMemory, if_neg c_1]), ht⟩) (fun q h => nomatch h) dX0_registerOrMemory_15

def fJ0_bitCount (p0 : Int32) : Int32 :=
  ((((((((p0 - ((((p0 : Int32).toUInt32 >>> ((1 : Int32).toUInt32 &&& Int32.toUInt32 31)).toInt32) &&& 1431655765)) &&& 858993459) + (((((p0 - ((((p0 : Int32).toUInt32 >>> ((1 : Int32).toUInt32 &&& Int32.toUInt32 31)).toInt32) &&& 1431655765)) : Int32).toUInt32 >>> ((2 : Int32).toUInt32 &&& Int32.toUInt32 31)).toInt32) &&& 858993459)) + ((((((p0 - ((((p0 : Int32).toUInt32 >>> ((1 : Int32).toUInt32 &&& Int32.toUInt32 31)).toInt32) &&& 1431655765)) &&& 858993459) + (((((p0 - ((((p0 : Int32).toUInt32 >>> ((1 : Int32).toUInt32 &&& Int32.toUInt32 31)).toInt32) &&& 1431655765)) : Int32).toUInt32 >>> ((2 : Int32).toUInt32 &&& Int32.toUInt32 31)).toInt32) &&& 858993459)) : Int32).toUInt32 >>> ((4 : Int32).toUInt32 &&& Int32.toUInt32 31)).toInt32)) &&& 252645135) + ((((((((p0 - ((((p0 : Int32).toUInt32 >>> ((1 : Int32).toUInt32 &&& Int32.toUInt32 31)).toInt32) &&& 1431655765)) &&& 858993459) + (((((p0 - ((((p0 : Int32).toUInt32 >>> ((1 : Int32).toUInt32 &&& Int32.toUInt32 31)).toInt32) &&& 1431655765)) : Int32).toUInt32 >>> ((2 : Int32).toUInt32 &&& Int32.toUInt32 31)).toInt32) &&& 858993459)) + ((((((p0 - ((((p0 : Int32).toUInt32 >>> ((1 : Int32).toUInt32 &&& Int32.toUInt32 31)).toInt32) &&& 1431655765)) &&& 858993459) + (((((p0 - ((((p0 : Int32).toUInt32 >>> ((1 : Int32).toUInt32 &&& Int32.toUInt32 31)).toInt32) &&& 1431655765)) : Int32).toUInt32 >>> ((2 : Int32).toUInt32 &&& Int32.toUInt32 31)).toInt32) &&& 858993459)) : Int32).toUInt32 >>> ((4 : Int32).toUInt32 &&& Int32.toUInt32 31)).toInt32)) &&& 252645135) : Int32).toUInt32 >>> ((8 : Int32).toUInt32 &&& Int32.toUInt32 31)).toInt32)) + (((((((((p0 - ((((p0 : Int32).toUInt32 >>> ((1 : Int32).toUInt32 &&& Int32.toUInt32 31)).toInt32) &&& 1431655765)) &&& 858993459) + (((((p0 - ((((p0 : Int32).toUInt32 >>> ((1 : Int32).toUInt32 &&& Int32.toUInt32 31)).toInt32) &&& 1431655765)) : Int32).toUInt32 >>> ((2 : Int32).toUInt32 &&& Int32.toUInt32 31)).toInt32) &&& 858993459)) + ((((((p0 - ((((p0 : Int32).toUInt32 >>> ((1 : Int32).toUInt32 &&& Int32.toUInt32 31)).toInt32) &&& 1431655765)) &&& 858993459) + (((((p0 - ((((p0 : Int32).toUInt32 >>> ((1 : Int32).toUInt32 &&& Int32.toUInt32 31)).toInt32) &&& 1431655765)) : Int32).toUInt32 >>> ((2 : Int32).toUInt32 &&& Int32.toUInt32 31)).toInt32) &&& 858993459)) : Int32).toUInt32 >>> ((4 : Int32).toUInt32 &&& Int32.toUInt32 31)).toInt32)) &&& 252645135) + ((((((((p0 - ((((p0 : Int32).toUInt32 >>> ((1 : Int32).toUInt32 &&& Int32.toUInt32 31)).toInt32) &&& 1431655765)) &&& 858993459) + (((((p0 - ((((p0 : Int32).toUInt32 >>> ((1 : Int32).toUInt32 &&& Int32.toUInt32 31)).toInt32) &&& 1431655765)) : Int32).toUInt32 >>> ((2 : Int32).toUInt32 &&& Int32.toUInt32 31)).toInt32) &&& 858993459)) + ((((((p0 - ((((p0 : Int32).toUInt32 >>> ((1 : Int32).toUInt32 &&& Int32.toUInt32 31)).toInt32) &&& 1431655765)) &&& 858993459) + (((((p0 - ((((p0 : Int32).toUInt32 >>> ((1 : Int32).toUInt32 &&& Int32.toUInt32 31)).toInt32) &&& 1431655765)) : Int32).toUInt32 >>> ((2 : Int32).toUInt32 &&& Int32.toUInt32 31)).toInt32) &&& 858993459)) : Int32).toUInt32 >>> ((4 : Int32).toUInt32 &&& Int32.toUInt32 31)).toInt32)) &&& 252645135) : Int32).toUInt32 >>> ((8 : Int32).toUInt32 &&& Int32.toUInt32 31)).toInt32)) : Int32).toUInt32 >>> ((16 : Int32).toUInt32 &&& Int32.toUInt32 31)).toInt32)) &&& 63)

abbrev wsJ0_bitCount : List Cond := .code yJ0_bitCount cJ0_bitCount 1 (some .int) :: wG
set_option maxHeartbeats 4000000 in
set_option maxRecDepth 100000 in
theorem mJ0_bitCount (l : Launch) (p0 : Int32)  : Met l yJ0_bitCount wsJ0_bitCount ({ frames := 0, cells := 0, slots := 0, locals := 0 }) (va_Pc [.int p0] (fun _ => True)) (vp_Si (fun r => r = fJ0_bitCount p0)) 0 0 (fun _ => False) := by
  refine Met.ofW (cc := cJ0_bitCount) (maxL := 1) (ret := (some .int)) (by decide) rfl ?_
  intro p e s m args below meth c s₁ B hml hv
  obtain ⟨rfl, -⟩ := hv
  have hx := B.exec
  have hb := B.bytes
  have hr := B.returns
  have hts := atoms_spec (ws := wsJ0_bitCount) B.pre
  have htG := fun (w : Cond) (h : w ∈ wG) => hts w (List.mem_cons_of_mem _ h)
  have hown : s.vm.findClass RJ0 = some m.cls := findClass_of_methodNamed B.named
  have hlocks := B.notSynchronized
  have hl := lv_entry ([.int p0]) (n := 1) (Nat.le_of_ble_eq_true rfl)
  rw [lg_entry_eq]
  generalize (lg_sl ([.int p0]) ++ List.replicate (1 - (lg_sl ([.int p0])).length) Slot.unset).toArray = ls at hl ⊢
  have hl : lv_has ls 1 [(0, .int p0)] := hl
  refine lv_iload_n hx hb dJ0_bitCount_0 rfl (lv_at hl 0 rfl) ?_
  refine lv_iload_n hx hb dJ0_bitCount_1 rfl (lv_at hl 0 rfl) ?_
  refine lv_iconst (v := 1) hx hb dJ0_bitCount_2 (by decide) ?_
  refine lv_iushr hx hb dJ0_bitCount_3 rfl ?_
  refine lv_ldcw (v := 1431655765) hx hb hown (htG _ wd_311) dJ0_bitCount_4 ?_
  refine lv_iand hx hb dJ0_bitCount_7 ?_
  refine lv_isub hx hb dJ0_bitCount_8 ?_
  refine lv_istore_n (lv' := [(0, .int (p0 - ((((p0 : Int32).toUInt32 >>> ((1 : Int32).toUInt32 &&& Int32.toUInt32 31)).toInt32) &&& 1431655765)))]) hx hb dJ0_bitCount_9 rfl hl (by decide) rfl (fun ls hl => ?_)
  refine lv_iload_n hx hb dJ0_bitCount_10 rfl (lv_at hl 0 rfl) ?_
  refine lv_ldcw (v := 858993459) hx hb hown (htG _ wd_312) dJ0_bitCount_11 ?_
  refine lv_iand hx hb dJ0_bitCount_14 ?_
  refine lv_iload_n hx hb dJ0_bitCount_15 rfl (lv_at hl 0 rfl) ?_
  refine lv_iconst (v := 2) hx hb dJ0_bitCount_16 (by decide) ?_
  refine lv_iushr hx hb dJ0_bitCount_17 rfl ?_
  refine lv_ldcw (v := 858993459) hx hb hown (htG _ wd_312) dJ0_bitCount_18 ?_
  refine lv_iand hx hb dJ0_bitCount_21 ?_
  refine lv_iadd hx hb dJ0_bitCount_22 ?_
  refine lv_istore_n (lv' := [(0, .int (((p0 - ((((p0 : Int32).toUInt32 >>> ((1 : Int32).toUInt32 &&& Int32.toUInt32 31)).toInt32) &&& 1431655765)) &&& 858993459) + (((((p0 - ((((p0 : Int32).toUInt32 >>> ((1 : Int32).toUInt32 &&& Int32.toUInt32 31)).toInt32) &&& 1431655765)) : Int32).toUInt32 >>> ((2 : Int32).toUInt32 &&& Int32.toUInt32 31)).toInt32) &&& 858993459)))]) hx hb dJ0_bitCount_23 rfl hl (by decide) rfl (fun ls hl => ?_)
  refine lv_iload_n hx hb dJ0_bitCount_24 rfl (lv_at hl 0 rfl) ?_
  refine lv_iload_n hx hb dJ0_bitCount_25 rfl (lv_at hl 0 rfl) ?_
  refine lv_iconst (v := 4) hx hb dJ0_bitCount_26 (by decide) ?_
  refine lv_iushr hx hb dJ0_bitCount_27 rfl ?_
  refine lv_iadd hx hb dJ0_bitCount_28 ?_
  refine lv_ldcw (v := 252645135) hx hb hown (htG _ wd_313) dJ0_bitCount_29 ?_
  refine lv_iand hx hb dJ0_bitCount_32 ?_
  refine lv_istore_n (lv' := [(0, .int (((((p0 - ((((p0 : Int32).toUInt32 >>> ((1 : Int32).toUInt32 &&& Int32.toUInt32 31)).toInt32) &&& 1431655765)) &&& 858993459) + (((((p0 - ((((p0 : Int32).toUInt32 >>> ((1 : Int32).toUInt32 &&& Int32.toUInt32 31)).toInt32) &&& 1431655765)) : Int32).toUInt32 >>> ((2 : Int32).toUInt32 &&& Int32.toUInt32 31)).toInt32) &&& 858993459)) + ((((((p0 - ((((p0 : Int32).toUInt32 >>> ((1 : Int32).toUInt32 &&& Int32.toUInt32 31)).toInt32) &&& 1431655765)) &&& 858993459) + (((((p0 - ((((p0 : Int32).toUInt32 >>> ((1 : Int32).toUInt32 &&& Int32.toUInt32 31)).toInt32) &&& 1431655765)) : Int32).toUInt32 >>> ((2 : Int32).toUInt32 &&& Int32.toUInt32 31)).toInt32) &&& 858993459)) : Int32).toUInt32 >>> ((4 : Int32).toUInt32 &&& Int32.toUInt32 31)).toInt32)) &&& 252645135))]) hx hb dJ0_bitCount_33 rfl hl (by decide) rfl (fun ls hl => ?_)
  refine lv_iload_n hx hb dJ0_bitCount_34 rfl (lv_at hl 0 rfl) ?_
  refine lv_iload_n hx hb dJ0_bitCount_35 rfl (lv_at hl 0 rfl) ?_
  refine lv_bipush (v := 8) hx hb dJ0_bitCount_36 (by decide) ?_
  refine lv_iushr hx hb dJ0_bitCount_38 rfl ?_
  refine lv_iadd hx hb dJ0_bitCount_39 ?_
  refine lv_istore_n (lv' := [(0, .int ((((((p0 - ((((p0 : Int32).toUInt32 >>> ((1 : Int32).toUInt32 &&& Int32.toUInt32 31)).toInt32) &&& 1431655765)) &&& 858993459) + (((((p0 - ((((p0 : Int32).toUInt32 >>> ((1 : Int32).toUInt32 &&& Int32.toUInt32 31)).toInt32) &&& 1431655765)) : Int32).toUInt32 >>> ((2 : Int32).toUInt32 &&& Int32.toUInt32 31)).toInt32) &&& 858993459)) + ((((((p0 - ((((p0 : Int32).toUInt32 >>> ((1 : Int32).toUInt32 &&& Int32.toUInt32 31)).toInt32) &&& 1431655765)) &&& 858993459) + (((((p0 - ((((p0 : Int32).toUInt32 >>> ((1 : Int32).toUInt32 &&& Int32.toUInt32 31)).toInt32) &&& 1431655765)) : Int32).toUInt32 >>> ((2 : Int32).toUInt32 &&& Int32.toUInt32 31)).toInt32) &&& 858993459)) : Int32).toUInt32 >>> ((4 : Int32).toUInt32 &&& Int32.toUInt32 31)).toInt32)) &&& 252645135) + ((((((((p0 - ((((p0 : Int32).toUInt32 >>> ((1 : Int32).toUInt32 &&& Int32.toUInt32 31)).toInt32) &&& 1431655765)) &&& 858993459) + (((((p0 - ((((p0 : Int32).toUInt32 >>> ((1 : Int32).toUInt32 &&& Int32.toUInt32 31)).toInt32) &&& 1431655765)) : Int32).toUInt32 >>> ((2 : Int32).toUInt32 &&& Int32.toUInt32 31)).toInt32) &&& 858993459)) + ((((((p0 - ((((p0 : Int32).toUInt32 >>> ((1 : Int32).toUInt32 &&& Int32.toUInt32 31)).toInt32) &&& 1431655765)) &&& 858993459) + (((((p0 - ((((p0 : Int32).toUInt32 >>> ((1 : Int32).toUInt32 &&& Int32.toUInt32 31)).toInt32) &&& 1431655765)) : Int32).toUInt32 >>> ((2 : Int32).toUInt32 &&& Int32.toUInt32 31)).toInt32) &&& 858993459)) : Int32).toUInt32 >>> ((4 : Int32).toUInt32 &&& Int32.toUInt32 31)).toInt32)) &&& 252645135) : Int32).toUInt32 >>> ((8 : Int32).toUInt32 &&& Int32.toUInt32 31)).toInt32)))]) hx hb dJ0_bitCount_40 rfl hl (by decide) rfl (fun ls hl => ?_)
  refine lv_iload_n hx hb dJ0_bitCount_41 rfl (lv_at hl 0 rfl) ?_
  refine lv_iload_n hx hb dJ0_bitCount_42 rfl (lv_at hl 0 rfl) ?_
  refine lv_bipush (v := 16) hx hb dJ0_bitCount_43 (by decide) ?_
  refine lv_iushr hx hb dJ0_bitCount_45 rfl ?_
  refine lv_iadd hx hb dJ0_bitCount_46 ?_
  refine lv_istore_n (lv' := [(0, .int (((((((p0 - ((((p0 : Int32).toUInt32 >>> ((1 : Int32).toUInt32 &&& Int32.toUInt32 31)).toInt32) &&& 1431655765)) &&& 858993459) + (((((p0 - ((((p0 : Int32).toUInt32 >>> ((1 : Int32).toUInt32 &&& Int32.toUInt32 31)).toInt32) &&& 1431655765)) : Int32).toUInt32 >>> ((2 : Int32).toUInt32 &&& Int32.toUInt32 31)).toInt32) &&& 858993459)) + ((((((p0 - ((((p0 : Int32).toUInt32 >>> ((1 : Int32).toUInt32 &&& Int32.toUInt32 31)).toInt32) &&& 1431655765)) &&& 858993459) + (((((p0 - ((((p0 : Int32).toUInt32 >>> ((1 : Int32).toUInt32 &&& Int32.toUInt32 31)).toInt32) &&& 1431655765)) : Int32).toUInt32 >>> ((2 : Int32).toUInt32 &&& Int32.toUInt32 31)).toInt32) &&& 858993459)) : Int32).toUInt32 >>> ((4 : Int32).toUInt32 &&& Int32.toUInt32 31)).toInt32)) &&& 252645135) + ((((((((p0 - ((((p0 : Int32).toUInt32 >>> ((1 : Int32).toUInt32 &&& Int32.toUInt32 31)).toInt32) &&& 1431655765)) &&& 858993459) + (((((p0 - ((((p0 : Int32).toUInt32 >>> ((1 : Int32).toUInt32 &&& Int32.toUInt32 31)).toInt32) &&& 1431655765)) : Int32).toUInt32 >>> ((2 : Int32).toUInt32 &&& Int32.toUInt32 31)).toInt32) &&& 858993459)) + ((((((p0 - ((((p0 : Int32).toUInt32 >>> ((1 : Int32).toUInt32 &&& Int32.toUInt32 31)).toInt32) &&& 1431655765)) &&& 858993459) + (((((p0 - ((((p0 : Int32).toUInt32 >>> ((1 : Int32).toUInt32 &&& Int32.toUInt32 31)).toInt32) &&& 1431655765)) : Int32).toUInt32 >>> ((2 : Int32).toUInt32 &&& Int32.toUInt32 31)).toInt32) &&& 858993459)) : Int32).toUInt32 >>> ((4 : Int32).toUInt32 &&& Int32.toUInt32 31)).toInt32)) &&& 252645135) : Int32).toUInt32 >>> ((8 : Int32).toUInt32 &&& Int32.toUInt32 31)).toInt32)) + (((((((((p0 - ((((p0 : Int32).toUInt32 >>> ((1 : Int32).toUInt32 &&& Int32.toUInt32 31)).toInt32) &&& 1431655765)) &&& 858993459) + (((((p0 - ((((p0 : Int32).toUInt32 >>> ((1 : Int32).toUInt32 &&& Int32.toUInt32 31)).toInt32) &&& 1431655765)) : Int32).toUInt32 >>> ((2 : Int32).toUInt32 &&& Int32.toUInt32 31)).toInt32) &&& 858993459)) + ((((((p0 - ((((p0 : Int32).toUInt32 >>> ((1 : Int32).toUInt32 &&& Int32.toUInt32 31)).toInt32) &&& 1431655765)) &&& 858993459) + (((((p0 - ((((p0 : Int32).toUInt32 >>> ((1 : Int32).toUInt32 &&& Int32.toUInt32 31)).toInt32) &&& 1431655765)) : Int32).toUInt32 >>> ((2 : Int32).toUInt32 &&& Int32.toUInt32 31)).toInt32) &&& 858993459)) : Int32).toUInt32 >>> ((4 : Int32).toUInt32 &&& Int32.toUInt32 31)).toInt32)) &&& 252645135) + ((((((((p0 - ((((p0 : Int32).toUInt32 >>> ((1 : Int32).toUInt32 &&& Int32.toUInt32 31)).toInt32) &&& 1431655765)) &&& 858993459) + (((((p0 - ((((p0 : Int32).toUInt32 >>> ((1 : Int32).toUInt32 &&& Int32.toUInt32 31)).toInt32) &&& 1431655765)) : Int32).toUInt32 >>> ((2 : Int32).toUInt32 &&& Int32.toUInt32 31)).toInt32) &&& 858993459)) + ((((((p0 - ((((p0 : Int32).toUInt32 >>> ((1 : Int32).toUInt32 &&& Int32.toUInt32 31)).toInt32) &&& 1431655765)) &&& 858993459) + (((((p0 - ((((p0 : Int32).toUInt32 >>> ((1 : Int32).toUInt32 &&& Int32.toUInt32 31)).toInt32) &&& 1431655765)) : Int32).toUInt32 >>> ((2 : Int32).toUInt32 &&& Int32.toUInt32 31)).toInt32) &&& 858993459)) : Int32).toUInt32 >>> ((4 : Int32).toUInt32 &&& Int32.toUInt32 31)).toInt32)) &&& 252645135) : Int32).toUInt32 >>> ((8 : Int32).toUInt32 &&& Int32.toUInt32 31)).toInt32)) : Int32).toUInt32 >>> ((16 : Int32).toUInt32 &&& Int32.toUInt32 31)).toInt32)))]) hx hb dJ0_bitCount_47 rfl hl (by decide) rfl (fun ls hl => ?_)
  refine lv_iload_n hx hb dJ0_bitCount_48 rfl (lv_at hl 0 rfl) ?_
  refine lv_bipush (v := 63) hx hb dJ0_bitCount_49 (by decide) ?_
  refine lv_iand hx hb dJ0_bitCount_51 ?_
  exact W.iret (v := ((((((((p0 - ((((p0 : Int32).toUInt32 >>> ((1 : Int32).toUInt32 &&& Int32.toUInt32 31)).toInt32) &&& 1431655765)) &&& 858993459) + (((((p0 - ((((p0 : Int32).toUInt32 >>> ((1 : Int32).toUInt32 &&& Int32.toUInt32 31)).toInt32) &&& 1431655765)) : Int32).toUInt32 >>> ((2 : Int32).toUInt32 &&& Int32.toUInt32 31)).toInt32) &&& 858993459)) + ((((((p0 - ((((p0 : Int32).toUInt32 >>> ((1 : Int32).toUInt32 &&& Int32.toUInt32 31)).toInt32) &&& 1431655765)) &&& 858993459) + (((((p0 - ((((p0 : Int32).toUInt32 >>> ((1 : Int32).toUInt32 &&& Int32.toUInt32 31)).toInt32) &&& 1431655765)) : Int32).toUInt32 >>> ((2 : Int32).toUInt32 &&& Int32.toUInt32 31)).toInt32) &&& 858993459)) : Int32).toUInt32 >>> ((4 : Int32).toUInt32 &&& Int32.toUInt32 31)).toInt32)) &&& 252645135) + ((((((((p0 - ((((p0 : Int32).toUInt32 >>> ((1 : Int32).toUInt32 &&& Int32.toUInt32 31)).toInt32) &&& 1431655765)) &&& 858993459) + (((((p0 - ((((p0 : Int32).toUInt32 >>> ((1 : Int32).toUInt32 &&& Int32.toUInt32 31)).toInt32) &&& 1431655765)) : Int32).toUInt32 >>> ((2 : Int32).toUInt32 &&& Int32.toUInt32 31)).toInt32) &&& 858993459)) + ((((((p0 - ((((p0 : Int32).toUInt32 >>> ((1 : Int32).toUInt32 &&& Int32.toUInt32 31)).toInt32) &&& 1431655765)) &&& 858993459) + (((((p0 - ((((p0 : Int32).toUInt32 >>> ((1 : Int32).toUInt32 &&& Int32.toUInt32 31)).toInt32) &&& 1431655765)) : Int32).toUInt32 >>> ((2 : Int32).toUInt32 &&& Int32.toUInt32 31)).toInt32) &&& 858993459)) : Int32).toUInt32 >>> ((4 : Int32).toUInt32 &&& Int32.toUInt32 31)).toInt32)) &&& 252645135) : Int32).toUInt32 >>> ((8 : Int32).toUInt32 &&& Int32.toUInt32 31)).toInt32)) + (((((((((p0 - ((((p0 : Int32).toUInt32 >>> ((1 : Int32).toUInt32 &&& Int32.toUInt32 31)).toInt32) &&& 1431655765)) &&& 858993459) + (((((p0 - ((((p0 : Int32).toUInt32 >>> ((1 : Int32).toUInt32 &&& Int32.toUInt32 31)).toInt32) &&& 1431655765)) : Int32).toUInt32 >>> ((2 : Int32).toUInt32 &&& Int32.toUInt32 31)).toInt32) &&& 858993459)) + ((((((p0 - ((((p0 : Int32).toUInt32 >>> ((1 : Int32).toUInt32 &&& Int32.toUInt32 31)).toInt32) &&& 1431655765)) &&& 858993459) + (((((p0 - ((((p0 : Int32).toUInt32 >>> ((1 : Int32).toUInt32 &&& Int32.toUInt32 31)).toInt32) &&& 1431655765)) : Int32).toUInt32 >>> ((2 : Int32).toUInt32 &&& Int32.toUInt32 31)).toInt32) &&& 858993459)) : Int32).toUInt32 >>> ((4 : Int32).toUInt32 &&& Int32.toUInt32 31)).toInt32)) &&& 252645135) + ((((((((p0 - ((((p0 : Int32).toUInt32 >>> ((1 : Int32).toUInt32 &&& Int32.toUInt32 31)).toInt32) &&& 1431655765)) &&& 858993459) + (((((p0 - ((((p0 : Int32).toUInt32 >>> ((1 : Int32).toUInt32 &&& Int32.toUInt32 31)).toInt32) &&& 1431655765)) : Int32).toUInt32 >>> ((2 : Int32).toUInt32 &&& Int32.toUInt32 31)).toInt32) &&& 858993459)) + ((((((p0 - ((((p0 : Int32).toUInt32 >>> ((1 : Int32).toUInt32 &&& Int32.toUInt32 31)).toInt32) &&& 1431655765)) &&& 858993459) + (((((p0 - ((((p0 : Int32).toUInt32 >>> ((1 : Int32).toUInt32 &&& Int32.toUInt32 31)).toInt32) &&& 1431655765)) : Int32).toUInt32 >>> ((2 : Int32).toUInt32 &&& Int32.toUInt32 31)).toInt32) &&& 858993459)) : Int32).toUInt32 >>> ((4 : Int32).toUInt32 &&& Int32.toUInt32 31)).toInt32)) &&& 252645135) : Int32).toUInt32 >>> ((8 : Int32).toUInt32 &&& Int32.toUInt32 31)).toInt32)) : Int32).toUInt32 >>> ((16 : Int32).toUInt32 &&& Int32.toUInt32 31)).toInt32)) &&& 63)) hx hb hr (fun t ht hW => ⟨((((((((p0 - ((((p0 : Int32).toUInt32 >>> ((1 : Int32).toUInt32 &&& Int32.toUInt32 31)).toInt32) &&& 1431655765)) &&& 858993459) + (((((p0 - ((((p0 : Int32).toUInt32 >>> ((1 : Int32).toUInt32 &&& Int32.toUInt32 31)).toInt32) &&& 1431655765)) : Int32).toUInt32 >>> ((2 : Int32).toUInt32 &&& Int32.toUInt32 31)).toInt32) &&& 858993459)) + ((((((p0 - ((((p0 : Int32).toUInt32 >>> ((1 : Int32).toUInt32 &&& Int32.toUInt32 31)).toInt32) &&& 1431655765)) &&& 858993459) + (((((p0 - ((((p0 : Int32).toUInt32 >>> ((1 : Int32).toUInt32 &&& Int32.toUInt32 31)).toInt32) &&& 1431655765)) : Int32).toUInt32 >>> ((2 : Int32).toUInt32 &&& Int32.toUInt32 31)).toInt32) &&& 858993459)) : Int32).toUInt32 >>> ((4 : Int32).toUInt32 &&& Int32.toUInt32 31)).toInt32)) &&& 252645135) + ((((((((p0 - ((((p0 : Int32).toUInt32 >>> ((1 : Int32).toUInt32 &&& Int32.toUInt32 31)).toInt32) &&& 1431655765)) &&& 858993459) + (((((p0 - ((((p0 : Int32).toUInt32 >>> ((1 : Int32).toUInt32 &&& Int32.toUInt32 31)).toInt32) &&& 1431655765)) : Int32).toUInt32 >>> ((2 : Int32).toUInt32 &&& Int32.toUInt32 31)).toInt32) &&& 858993459)) + ((((((p0 - ((((p0 : Int32).toUInt32 >>> ((1 : Int32).toUInt32 &&& Int32.toUInt32 31)).toInt32) &&& 1431655765)) &&& 858993459) + (((((p0 - ((((p0 : Int32).toUInt32 >>> ((1 : Int32).toUInt32 &&& Int32.toUInt32 31)).toInt32) &&& 1431655765)) : Int32).toUInt32 >>> ((2 : Int32).toUInt32 &&& Int32.toUInt32 31)).toInt32) &&& 858993459)) : Int32).toUInt32 >>> ((4 : Int32).toUInt32 &&& Int32.toUInt32 31)).toInt32)) &&& 252645135) : Int32).toUInt32 >>> ((8 : Int32).toUInt32 &&& Int32.toUInt32 31)).toInt32)) + (((((((((p0 - ((((p0 : Int32).toUInt32 >>> ((1 : Int32).toUInt32 &&& Int32.toUInt32 31)).toInt32) &&& 1431655765)) &&& 858993459) + (((((p0 - ((((p0 : Int32).toUInt32 >>> ((1 : Int32).toUInt32 &&& Int32.toUInt32 31)).toInt32) &&& 1431655765)) : Int32).toUInt32 >>> ((2 : Int32).toUInt32 &&& Int32.toUInt32 31)).toInt32) &&& 858993459)) + ((((((p0 - ((((p0 : Int32).toUInt32 >>> ((1 : Int32).toUInt32 &&& Int32.toUInt32 31)).toInt32) &&& 1431655765)) &&& 858993459) + (((((p0 - ((((p0 : Int32).toUInt32 >>> ((1 : Int32).toUInt32 &&& Int32.toUInt32 31)).toInt32) &&& 1431655765)) : Int32).toUInt32 >>> ((2 : Int32).toUInt32 &&& Int32.toUInt32 31)).toInt32) &&& 858993459)) : Int32).toUInt32 >>> ((4 : Int32).toUInt32 &&& Int32.toUInt32 31)).toInt32)) &&& 252645135) + ((((((((p0 - ((((p0 : Int32).toUInt32 >>> ((1 : Int32).toUInt32 &&& Int32.toUInt32 31)).toInt32) &&& 1431655765)) &&& 858993459) + (((((p0 - ((((p0 : Int32).toUInt32 >>> ((1 : Int32).toUInt32 &&& Int32.toUInt32 31)).toInt32) &&& 1431655765)) : Int32).toUInt32 >>> ((2 : Int32).toUInt32 &&& Int32.toUInt32 31)).toInt32) &&& 858993459)) + ((((((p0 - ((((p0 : Int32).toUInt32 >>> ((1 : Int32).toUInt32 &&& Int32.toUInt32 31)).toInt32) &&& 1431655765)) &&& 858993459) + (((((p0 - ((((p0 : Int32).toUInt32 >>> ((1 : Int32).toUInt32 &&& Int32.toUInt32 31)).toInt32) &&& 1431655765)) : Int32).toUInt32 >>> ((2 : Int32).toUInt32 &&& Int32.toUInt32 31)).toInt32) &&& 858993459)) : Int32).toUInt32 >>> ((4 : Int32).toUInt32 &&& Int32.toUInt32 31)).toInt32)) &&& 252645135) : Int32).toUInt32 >>> ((8 : Int32).toUInt32 &&& Int32.toUInt32 31)).toInt32)) : Int32).toUInt32 >>> ((16 : Int32).toUInt32 &&& Int32.toUInt32 31)).toInt32)) &&& 63), rfl, (by rw [fJ0_bitCount]), ht⟩) (fun q h => nomatch h) dJ0_bitCount_52

def fX0_savedPlace (p0 p1 p2 p3 : Int32) : Int32 :=
  if (p0 &&& (1 <<< (p1 &&& 31))) = 0 then (-1)
  else (p2 + (p3 * (fJ0_bitCount (p0 &&& ((1 <<< (p1 &&& 31)) - 1)))))

abbrev wsX0_savedPlace : List Cond := .code yX0_savedPlace cX0_savedPlace 5 (some .int) :: wG
set_option maxHeartbeats 4000000 in
set_option maxRecDepth 100000 in
theorem mX0_savedPlace (l : Launch) (p0 p1 p2 p3 : Int32)  : Met l yX0_savedPlace wsX0_savedPlace ({ frames := 1, cells := 0, slots := 0, locals := 20 }) (va_Pc [.int p0, .int p1, .int p2, .int p3] (fun _ => True)) (vp_Si (fun r => r = fX0_savedPlace p0 p1 p2 p3)) 0 0 (fun _ => False) := by
  refine Met.ofW (cc := cX0_savedPlace) (maxL := 5) (ret := (some .int)) (by decide) rfl ?_
  intro p e s m args below meth c s₁ B hml hv
  obtain ⟨rfl, -⟩ := hv
  have hx := B.exec
  have hb := B.bytes
  have hr := B.returns
  have hts := atoms_spec (ws := wsX0_savedPlace) B.pre
  have htG := fun (w : Cond) (h : w ∈ wG) => hts w (List.mem_cons_of_mem _ h)
  have hown : s.vm.findClass RX0 = some m.cls := findClass_of_methodNamed B.named
  have hlocks := B.notSynchronized
  have hl := lv_entry ([.int p0, .int p1, .int p2, .int p3]) (n := 5) (Nat.le_of_ble_eq_true rfl)
  rw [lg_entry_eq]
  generalize (lg_sl ([.int p0, .int p1, .int p2, .int p3]) ++ List.replicate (5 - (lg_sl ([.int p0, .int p1, .int p2, .int p3])).length) Slot.unset).toArray = ls at hl ⊢
  have hl : lv_has ls 5 [(0, .int p0), (1, .int p1), (2, .int p2), (3, .int p3)] := hl
  refine lv_iconst (v := 1) hx hb dX0_savedPlace_0 (by decide) ?_
  refine lv_iload_n hx hb dX0_savedPlace_1 rfl (lv_at hl 1 rfl) ?_
  refine lv_ishl hx hb dX0_savedPlace_2 ?_
  refine lv_istore (lv' := [(4, .int (1 <<< (p1 &&& 31))), (0, .int p0), (1, .int p1), (2, .int p2), (3, .int p3)]) hx hb dX0_savedPlace_3 hl (by decide) rfl (fun ls hl => ?_)
  refine lv_iload_n hx hb dX0_savedPlace_5 rfl (lv_at hl 1 rfl) ?_
  refine lv_iload hx hb dX0_savedPlace_6 (lv_at hl 0 rfl) ?_
  refine lv_iand hx hb dX0_savedPlace_8 ?_
  refine lv_if_ne (tgt := 14) hx hb dX0_savedPlace_9 (by decide) (fun c_1 => ?_) (fun c_1 => ?_)
  · refine lv_iload_n hx hb dX0_savedPlace_14 rfl (lv_at hl 3 rfl) ?_
    refine lv_iload_n hx hb dX0_savedPlace_15 rfl (lv_at hl 4 rfl) ?_
    refine lv_iload_n hx hb dX0_savedPlace_16 rfl (lv_at hl 1 rfl) ?_
    refine lv_iload hx hb dX0_savedPlace_17 (lv_at hl 0 rfl) ?_
    refine lv_iconst (v := 1) hx hb dX0_savedPlace_19 (by decide) ?_
    refine lv_isub hx hb dX0_savedPlace_20 ?_
    refine lv_iand hx hb dX0_savedPlace_21 ?_
    refine vp_callSi (va_runS (As := [.int (p0 &&& ((1 <<< (p1 &&& 31)) - 1))]) (rest := [.int p3, .int p2]) ⟨hx, hb, hml, hown, htG⟩ (mJ0_bitCount l (p0 &&& ((1 <<< (p1 &&& 31)) - 1))) (va_cwS 1 htG (wG_S wd_308 wd_309 wd_31 wd_310) rfl rfl rfl (by decide +kernel) ⟨Nat.le_of_ble_eq_true rfl, Nat.le_of_ble_eq_true rfl⟩) ⟨fun _ _ _ _ q => q, fun U hU hW => ⟨rfl, trivial⟩⟩ rfl rfl hl.1 rfl (lv_room (Nat.le_of_ble_eq_true rfl)) dX0_savedPlace_22 ⟨Nat.le_of_ble_eq_true rfl, Nat.le_of_ble_eq_true rfl⟩).run (fun r_1 er_1 => ?_)
    subst er_1
    refine lv_imul hx hb dX0_savedPlace_25 ?_
    refine lv_iadd hx hb dX0_savedPlace_26 ?_
    exact W.iret (v := (p2 + (p3 * (fJ0_bitCount (p0 &&& ((1 <<< (p1 &&& 31)) - 1)))))) hx hb hr (fun t ht hW => ⟨(p2 + (p3 * (fJ0_bitCount (p0 &&& ((1 <<< (p1 &&& 31)) - 1))))), rfl, (by rw [fX0_savedPlace, if_neg c_1]), ht⟩) (fun q h => nomatch h) dX0_savedPlace_27
  · refine lv_iconst (v := (-1)) hx hb dX0_savedPlace_12 (by decide) ?_
    exact W.iret (v := (-1)) hx hb hr (fun t ht hW => ⟨(-1), rfl, (by rw [fX0_savedPlace, if_pos c_1]), ht⟩) (fun q h => nomatch h) dX0_savedPlace_13
