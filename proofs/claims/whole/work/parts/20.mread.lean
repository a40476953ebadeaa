def fX1_thrown (mf0 : Int32) : Int32 :=
  mf0

abbrev wsX1_thrown : List Cond := .code yX1_thrown cX1_thrown 1 (some .int) :: wG
set_option maxHeartbeats 4000000 in
set_option maxRecDepth 100000 in
theorem mX1_thrown (l : Launch) (dC : Nat → ClassId) (dI : Nat → Nat → Nat) (mh0 mh1 mh2 mh3 : Nat) (mc1 mc2 mc3 : ClassId) (mk1 mk2 mk3 : Nat → Int32) (mf0 mf1 mf2 mf3 mf4 mf5 mf6 mf7 mf8 mf9 : Int32)   : Met l yX1_thrown wsX1_thrown ({ frames := 0, cells := 0, slots := 0, locals := 0 }) (va_Pc [.ref mh0] (fun U => va_P (dC, dI) vwCl (mW mh0 mh1 mh2 mh3 mc1 mc2 mc3 mk1 mk2 mk3 mf0 mf1 mf2 mf3 mf4 mf5 mf6 mf7 mf8 mf9) U.heap ∧ va_K (dC, dI) vwCl [(mc1, .int), (mc2, .int), (mc3, .int)] U)) (vp_Si (fun r => r = fX1_thrown mf0)) 0 0 (fun _ => False) := by
  refine Met.ofW (cc := cX1_thrown) (maxL := 1) (ret := (some .int)) (by decide) rfl ?_
  intro p e s m args below meth c s₁ B hml hv
  obtain ⟨rfl, hP, hK⟩ := hv
  have hx := B.exec
  have hb := B.bytes
  have hr := B.returns
  have hts := atoms_spec (ws := wsX1_thrown) B.pre
  have htG := fun (w : Cond) (h : w ∈ wG) => hts w (List.mem_cons_of_mem _ h)
  have hown : s.vm.findClass RX1 = some m.cls := findClass_of_methodNamed B.named
  have hlocks := B.notSynchronized
  have hl := lv_entry ([.ref mh0]) (n := 1) (Nat.le_of_ble_eq_true rfl)
  rw [lg_entry_eq]
  generalize (lg_sl ([.ref mh0]) ++ List.replicate (1 - (lg_sl ([.ref mh0])).length) Slot.unset).toArray = ls at hl ⊢
  have hl : lv_has ls 1 [(0, .ref mh0)] := hl
  refine lv_aload_n hx hb dX1_thrown_0 rfl (lv_at hl 0 rfl) ?_
  refine va_get (D := (dC, dI)) (ci := 1) (v := .int mf0) (C := RX1) (T := TX1) (N := 13) hx hb htG inX1 hown hK hP 0 rfl rfl 0 (by decide) (htG _ wd_331) (fun _ h9 => h9) rfl dX1_thrown_1 ?_
  exact W.iret (v := mf0) hx hb hr (fun t ht hW => ⟨mf0, rfl, (by rw [fX1_thrown]), ht⟩) (fun q h => nomatch h) dX1_thrown_4

def fX1_isGood (p0 p1 p2 p3 : Int32) : Int32 :=
  if p0 < 0 then 0
  else if p0 ≤ p1 then (if p0 = 3 then (if p3 = 1 then (if p2 ≤ 0 then 0
          else if 65536 < p2 then 0
            else if (p2 - p2 / p3 * p3) = 0 then 1
              else 0)
        else if p3 = 2 then (if p2 ≤ 0 then 0
            else if 65536 < p2 then 0
              else if (p2 - p2 / p3 * p3) = 0 then 1
                else 0)
          else if p3 = 4 then (if p2 ≤ 0 then 0
              else if 65536 < p2 then 0
                else if (p2 - p2 / p3 * p3) = 0 then 1
                  else 0)
            else if p3 = 8 then (if p2 ≤ 0 then 0
                else if 65536 < p2 then 0
                  else if (p2 - p2 / p3 * p3) = 0 then 1
                    else 0)
              else 0)
      else 1)
    else 0
theorem bbX1_isGood {p0 p1 p2 p3 : Int32} : fX1_isGood p0 p1 p2 p3 = 0 ∨ fX1_isGood p0 p1 p2 p3 = 1 := by
  unfold fX1_isGood
  repeat' split
  all_goals first | exact Or.inl rfl | exact Or.inr rfl | exact bbX0_isRecord | exact bbX0_isAdded | exact bbX0_isArgument | exact bbX0_isFractional | exact bbX0_isInFraction
theorem nbX1_isGood {p0 p1 p2 p3 : Int32} : narrow .boolean (.int (fX1_isGood p0 p1 p2 p3)) = .int (fX1_isGood p0 p1 p2 p3) := nb_of bbX1_isGood

abbrev wsX1_isGood : List Cond := .code yX1_isGood cX1_isGood 5 (some .boolean) :: wG
set_option maxHeartbeats 4000000 in
set_option maxRecDepth 100000 in
theorem mX1_isGood (l : Launch) (p0 p1 p2 p3 : Int32)  : Met l yX1_isGood wsX1_isGood ({ frames := 0, cells := 0, slots := 0, locals := 0 }) (va_Pc [.int p0, .int p1, .int p2, .int p3] (fun _ => True)) (vp_Si (fun r => r = fX1_isGood p0 p1 p2 p3)) 0 0 (fun _ => False) := by
  refine Met.ofW (cc := cX1_isGood) (maxL := 5) (ret := (some .boolean)) (by decide) rfl ?_
  intro p e s m args below meth c s₁ B hml hv
  obtain ⟨rfl, -⟩ := hv
  have hx := B.exec
  have hb := B.bytes
  have hr := B.returns
  have hts := atoms_spec (ws := wsX1_isGood) B.pre
  have htG := fun (w : Cond) (h : w ∈ wG) => hts w (List.mem_cons_of_mem _ h)
  have hown : s.vm.findClass RX1 = some m.cls := findClass_of_methodNamed B.named
  have hlocks := B.notSynchronized
  have hl := lv_entry ([.int p0, .int p1, .int p2, .int p3]) (n := 5) (Nat.le_of_ble_eq_true rfl)
  rw [lg_entry_eq]
  generalize (lg_sl ([.int p0, .int p1, .int p2, .int p3]) ++ List.replicate (5 - (lg_sl ([.int p0, .int p1, .int p2, .int p3])).length) Slot.unset).toArray = ls at hl ⊢
  have hl : lv_has ls 5 [(0, .int p0), (1, .int p1), (2, .int p2), (3, .int p3)] := hl
  refine lv_iload_n hx hb dX1_isGood_0 rfl (lv_at hl 0 rfl) ?_
  refine lv_if_lt (tgt := 9) hx hb dX1_isGood_1 (by decide) (fun c_1 => ?_) (fun c_1 => ?_)
  · refine lv_iconst (v := 0) hx hb dX1_isGood_9 (by decide) ?_
    exact W.zret (v := 0) hx hb hr rfl (fun t ht hW => ⟨0, rfl, (by rw [fX1_isGood, if_pos c_1]), ht⟩) (fun q h => nomatch h) dX1_isGood_10
  · refine lv_iload_n hx hb dX1_isGood_4 rfl (lv_at hl 0 rfl) ?_
    refine lv_iload_n hx hb dX1_isGood_5 rfl (lv_at hl 1 rfl) ?_
    refine lv_icmp_le (tgt := 11) hx hb dX1_isGood_6 (by decide) (fun c_2 => ?_) (fun c_2 => ?_)
    · refine lv_iload_n hx hb dX1_isGood_11 rfl (lv_at hl 0 rfl) ?_
      refine lv_iconst (v := 3) hx hb dX1_isGood_12 (by decide) ?_
      refine lv_icmp_eq (tgt := 18) hx hb dX1_isGood_13 (by decide) (fun c_3 => ?_) (fun c_3 => ?_)
      · refine lv_iload_n hx hb dX1_isGood_18 rfl (lv_at hl 3 rfl) ?_
        refine lv_iconst (v := 1) hx hb dX1_isGood_19 (by decide) ?_
        refine lv_icmp_eq (tgt := 39) hx hb dX1_isGood_20 (by decide) (fun c_4 => ?_) (fun c_4 => ?_)
        · refine lv_iconst (v := 1) hx hb dX1_isGood_39 (by decide) ?_
          refine lv_goto (tgt := 44) hx hb dX1_isGood_40 (by decide) ?_
          refine lv_istore (lv' := [(4, .int 1), (0, .int p0), (1, .int p1), (2, .int p2), (3, .int p3)]) hx hb dX1_isGood_44 hl (by decide) rfl (fun ls hl => ?_)
          refine lv_iload hx hb dX1_isGood_46 (lv_at hl 0 rfl) ?_
          refine lv_if_eq (tgt := 71) hx hb dX1_isGood_48 (by decide) (fun c_5 => ?_) (fun c_5 => ?_)
          · exact absurd c_5 (by decide)
          · refine lv_iload_n hx hb dX1_isGood_51 rfl (lv_at hl 3 rfl) ?_
            refine lv_if_le (tgt := 71) hx hb dX1_isGood_52 (by decide) (fun c_6 => ?_) (fun c_6 => ?_)
            · refine lv_iconst (v := 0) hx hb dX1_isGood_71 (by decide) ?_
              exact W.zret (v := 0) hx hb hr rfl (fun t ht hW => ⟨0, rfl, (by rw [fX1_isGood, if_neg c_1, if_pos c_2, if_pos c_3, if_pos c_4, if_pos c_6]), ht⟩) (fun q h => nomatch h) dX1_isGood_72
            · refine lv_iload_n hx hb dX1_isGood_55 rfl (lv_at hl 3 rfl) ?_
              refine lv_ldc (v := 65536) hx hb hown (htG _ wd_382) dX1_isGood_56 ?_
              refine lv_icmp_gt (tgt := 71) hx hb dX1_isGood_58 (by decide) (fun c_7 => ?_) (fun c_7 => ?_)
              · refine lv_iconst (v := 0) hx hb dX1_isGood_71 (by decide) ?_
                exact W.zret (v := 0) hx hb hr rfl (fun t ht hW => ⟨0, rfl, (by rw [fX1_isGood, if_neg c_1, if_pos c_2, if_pos c_3, if_pos c_4, if_neg c_6, if_pos c_7]), ht⟩) (fun q h => nomatch h) dX1_isGood_72
              · refine lv_iload_n hx hb dX1_isGood_61 rfl (lv_at hl 3 rfl) ?_
                refine lv_iload_n hx hb dX1_isGood_62 rfl (lv_at hl 4 rfl) ?_
                refine lv_irem hx hb dX1_isGood_63 (by rw [c_4]; decide) ?_
                refine lv_if_ne (tgt := 71) hx hb dX1_isGood_64 (by decide) (fun c_8 => ?_) (fun c_8 => ?_)
                · refine lv_iconst (v := 0) hx hb dX1_isGood_71 (by decide) ?_
                  exact W.zret (v := 0) hx hb hr rfl (fun t ht hW => ⟨0, rfl, (by rw [fX1_isGood, if_neg c_1, if_pos c_2, if_pos c_3, if_pos c_4, if_neg c_6, if_neg c_7, if_neg c_8]), ht⟩) (fun q h => nomatch h) dX1_isGood_72
                · refine lv_iconst (v := 1) hx hb dX1_isGood_67 (by decide) ?_
                  refine lv_goto (tgt := 72) hx hb dX1_isGood_68 (by decide) ?_
                  exact W.zret (v := 1) hx hb hr rfl (fun t ht hW => ⟨1, rfl, (by rw [fX1_isGood, if_neg c_1, if_pos c_2, if_pos c_3, if_pos c_4, if_neg c_6, if_neg c_7, if_pos c_8]), ht⟩) (fun q h => nomatch h) dX1_isGood_72
        · refine lv_iload_n hx hb dX1_isGood_23 rfl (lv_at hl 3 rfl) ?_
          refine lv_iconst (v := 2) hx hb dX1_isGood_24 (by decide) ?_
          refine lv_icmp_eq (tgt := 39) hx hb dX1_isGood_25 (by decide) (fun c_9 => ?_) (fun c_9 => ?_)
          · refine lv_iconst (v := 1) hx hb dX1_isGood_39 (by decide) ?_
            refine lv_goto (tgt := 44) hx hb dX1_isGood_40 (by decide) ?_
            refine lv_istore (lv' := [(4, .int 1), (0, .int p0), (1, .int p1), (2, .int p2), (3, .int p3)]) hx hb dX1_isGood_44 hl (by decide) rfl (fun ls hl => ?_)
            refine lv_iload hx hb dX1_isGood_46 (lv_at hl 0 rfl) ?_
            refine lv_if_eq (tgt := 71) hx hb dX1_isGood_48 (by decide) (fun c_10 => ?_) (fun c_10 => ?_)
            · exact absurd c_10 (by decide)
            · refine lv_iload_n hx hb dX1_isGood_51 rfl (lv_at hl 3 rfl) ?_
              refine lv_if_le (tgt := 71) hx hb dX1_isGood_52 (by decide) (fun c_11 => ?_) (fun c_11 => ?_)
              · refine lv_iconst (v := 0) hx hb dX1_isGood_71 (by decide) ?_
                exact W.zret (v := 0) hx hb hr rfl (fun t ht hW => ⟨0, rfl, (by rw [fX1_isGood, if_neg c_1, if_pos c_2, if_pos c_3, if_neg c_4, if_pos c_9, if_pos c_11]), ht⟩) (fun q h => nomatch h) dX1_isGood_72
              · refine lv_iload_n hx hb dX1_isGood_55 rfl (lv_at hl 3 rfl) ?_
                refine lv_ldc (v := 65536) hx hb hown (htG _ wd_382) dX1_isGood_56 ?_
                refine lv_icmp_gt (tgt := 71) hx hb dX1_isGood_58 (by decide) (fun c_12 => ?_) (fun c_12 => ?_)
                · refine lv_iconst (v := 0) hx hb dX1_isGood_71 (by decide) ?_
                  exact W.zret (v := 0) hx hb hr rfl (fun t ht hW => ⟨0, rfl, (by rw [fX1_isGood, if_neg c_1, if_pos c_2, if_pos c_3, if_neg c_4, if_pos c_9, if_neg c_11, if_pos c_12]), ht⟩) (fun q h => nomatch h) dX1_isGood_72
                · refine lv_iload_n hx hb dX1_isGood_61 rfl (lv_at hl 3 rfl) ?_
                  refine lv_iload_n hx hb dX1_isGood_62 rfl (lv_at hl 4 rfl) ?_
                  refine lv_irem hx hb dX1_isGood_63 (by rw [c_9]; decide) ?_
                  refine lv_if_ne (tgt := 71) hx hb dX1_isGood_64 (by decide) (fun c_13 => ?_) (fun c_13 => ?_)
                  · refine lv_iconst (v := 0) hx hb dX1_isGood_71 (by decide) ?_
                    exact W.zret (v := 0) hx hb hr rfl (fun t ht hW => ⟨0, rfl, (by rw [fX1_isGood, if_neg c_1, if_pos c_2, if_pos c_3, if_neg c_4, if_pos c_9, if_neg c_11, if_neg c_12, if_neg c_13]), ht⟩) (fun q h => nomatch h) dX1_isGood_72
                  · refine lv_iconst (v := 1) hx hb dX1_isGood_67 (by decide) ?_
                    refine lv_goto (tgt := 72) hx hb dX1_isGood_68 (by decide) ?_
                    exact W.zret (v := 1) hx hb hr rfl (fun t ht hW => ⟨1, rfl, (by rw [fX1_isGood, if_neg c_1, if_pos c_2, if_pos c_3, if_neg c_4, if_pos c_9, if_neg c_11, if_neg c_12, if_pos c_13]), ht⟩) (fun q h => nomatch h) dX1_isGood_72
          · refine lv_iload_n hx hb dX1_isGood_28 rfl (lv_at hl 3 rfl) ?_
            refine lv_iconst (v := 4) hx hb dX1_isGood_29 (by decide) ?_
            refine lv_icmp_eq (tgt := 39) hx hb dX1_isGood_30 (by decide) (fun c_14 => ?_) (fun c_14 => ?_)
            · refine lv_iconst (v := 1) hx hb dX1_isGood_39 (by decide) ?_
              refine lv_goto (tgt := 44) hx hb dX1_isGood_40 (by decide) ?_
              refine lv_istore (lv' := [(4, .int 1), (0, .int p0), (1, .int p1), (2, .int p2), (3, .int p3)]) hx hb dX1_isGood_44 hl (by decide) rfl (fun ls hl => ?_)
              refine lv_iload hx hb dX1_isGood_46 (lv_at hl 0 rfl) ?_
              refine lv_if_eq (tgt := 71) hx hb dX1_isGood_48 (by decide) (fun c_15 => ?_) (fun c_15 => ?_)
              · exact absurd c_15 (by decide)
              · refine lv_iload_n hx hb dX1_isGood_51 rfl (lv_at hl 3 rfl) ?_
                refine lv_if_le (tgt := 71) hx hb dX1_isGood_52 (by decide) (fun c_16 => ?_) (fun c_16 => ?_)
                · refine lv_iconst (v := 0) hx hb dX1_isGood_71 (by decide) ?_
                  exact W.zret (v := 0) hx hb hr rfl (fun t ht hW => ⟨0, rfl, (by rw [fX1_isGood, if_neg c_1, if_pos c_2, if_pos c_3, if_neg c_4, if_neg c_9, if_pos c_14, if_pos c_16]), ht⟩) (fun q h => nomatch h) dX1_isGood_72
                · refine lv_iload_n hx hb dX1_isGood_55 rfl (lv_at hl 3 rfl) ?_
                  refine lv_ldc (v := 65536) hx hb hown (htG _ wd_382) dX1_isGood_56 ?_
                  refine lv_icmp_gt (tgt := 71) hx hb dX1_isGood_58 (by decide) (fun c_17 => ?_) (fun c_17 => ?_)
                  · refine lv_iconst (v := 0) hx hb dX1_isGood_71 (by decide) ?_
                    exact W.zret (v := 0) hx hb hr rfl (fun t ht hW => ⟨0, rfl, (by rw [fX1_isGood, if_neg c_1, if_pos c_2, if_pos c_3, if_neg c_4, if_neg c_9, if_pos c_14, if_neg c_16, if_pos c_17]), ht⟩) (fun q h => nomatch h) dX1_isGood_72
                  · refine lv_iload_n hx hb dX1_isGood_61 rfl (lv_at hl 3 rfl) ?_
                    refine lv_iload_n hx hb dX1_isGood_62 rfl (lv_at hl 4 rfl) ?_
                    refine lv_irem hx hb dX1_isGood_63 (by rw [c_14]; decide) ?_
                    refine lv_if_ne (tgt := 71) hx hb dX1_isGood_64 (by decide) (fun c_18 => ?_) (fun c_18 => ?_)
                    · refine lv_iconst (v := 0) hx hb dX1_isGood_71 (by decide) ?_
                      exact W.zret (v := 0) hx hb hr rfl (fun t ht hW => ⟨0, rfl, (by rw [fX1_isGood, if_neg c_1, if_pos c_2, if_pos c_3, if_neg c_4, if_neg c_9, if_pos c_14, if_neg c_16, if_neg c_17, if_neg c_18]), ht⟩) (fun q h => nomatch h) dX1_isGood_72
                    · refine lv_iconst (v := 1) hx hb dX1_isGood_67 (by decide) ?_
                      refine lv_goto (tgt := 72) hx hb dX1_isGood_68 (by decide) ?_
                      exact W.zret (v := 1) hx hb hr rfl (fun t ht hW => ⟨1, rfl, (by rw [fX1_isGood, if_neg c_1, if_pos c_2, if_pos c_3, if_neg c_4, if_neg c_9, if_pos c_14, if_neg c_16, if_neg c_17, if_pos c_18]), ht⟩) (fun q h => nomatch h) dX1_isGood_72
            · refine lv_iload_n hx hb dX1_isGood_33 rfl (lv_at hl 3 rfl) ?_
              refine lv_bipush (v := 8) hx hb dX1_isGood_34 (by decide) ?_
              refine lv_icmp_ne (tgt := 43) hx hb dX1_isGood_36 (by decide) (fun c_19 => ?_) (fun c_19 => ?_)
              · refine lv_iconst (v := 0) hx hb dX1_isGood_43 (by decide) ?_
                refine lv_istore (lv' := [(4, .int 0), (0, .int p0), (1, .int p1), (2, .int p2), (3, .int p3)]) hx hb dX1_isGood_44 hl (by decide) rfl (fun ls hl => ?_)
                refine lv_iload hx hb dX1_isGood_46 (lv_at hl 0 rfl) ?_
                refine lv_if_eq (tgt := 71) hx hb dX1_isGood_48 (by decide) (fun c_20 => ?_) (fun c_20 => ?_)
                · refine lv_iconst (v := 0) hx hb dX1_isGood_71 (by decide) ?_
                  exact W.zret (v := 0) hx hb hr rfl (fun t ht hW => ⟨0, rfl, (by rw [fX1_isGood, if_neg c_1, if_pos c_2, if_pos c_3, if_neg c_4, if_neg c_9, if_neg c_14, if_neg c_19]), ht⟩) (fun q h => nomatch h) dX1_isGood_72
                · exact absurd c_20 (by decide)
              · refine lv_iconst (v := 1) hx hb dX1_isGood_39 (by decide) ?_
                refine lv_goto (tgt := 44) hx hb dX1_isGood_40 (by decide) ?_
                refine lv_istore (lv' := [(4, .int 1), (0, .int p0), (1, .int p1), (2, .int p2), (3, .int p3)]) hx hb dX1_isGood_44 hl (by decide) rfl (fun ls hl => ?_)
                refine lv_iload hx hb dX1_isGood_46 (lv_at hl 0 rfl) ?_
                refine lv_if_eq (tgt := 71) hx hb dX1_isGood_48 (by decide) (fun c_21 => ?_) (fun c_21 => ?_)
                · exact absurd c_21 (by decide)
                · refine lv_iload_n hx hb dX1_isGood_51 rfl (lv_at hl 3 rfl) ?_
                  refine lv_if_le (tgt := 71) hx hb dX1_isGood_52 (by decide) (fun c_22 => ?_) (fun c_22 => ?_)
                  · refine lv_iconst (v := 0) hx hb dX1_isGood_71 (by decide) ?_
                    exact W.zret (v := 0) hx hb hr rfl (fun t ht hW => ⟨0, rfl, (by rw [fX1_isGood, if_neg c_1, if_pos c_2, if_pos c_3, if_neg c_4, if_neg c_9, if_neg c_14, if_pos c_19, if_pos c_22]), ht⟩) (fun q h => nomatch h) dX1_isGood_72
                  · refine lv_iload_n hx hb dX1_isGood_55 rfl (lv_at hl 3 rfl) ?_
                    refine lv_ldc (v := 65536) hx hb hown (htG _ wd_382) dX1_isGood_56 ?_
                    refine lv_icmp_gt (tgt := 71) hx hb dX1_isGood_58 (by decide) (fun c_23 => ?_) (fun c_23 => ?_)
                    · refine lv_iconst (v := 0) hx hb dX1_isGood_71 (by decide) ?_
                      exact W.zret (v := 0) hx hb hr rfl (fun t ht hW => ⟨0, rfl, (by rw [fX1_isGood, if_neg c_1, if_pos c_2, if_pos c_3, if_neg c_4, if_neg c_9, if_neg c_14, if_pos c_19, if_neg c_22, if_pos c_23]), ht⟩) (fun q h => nomatch h) dX1_isGood_72
                    · refine lv_iload_n hx hb dX1_isGood_61 rfl (lv_at hl 3 rfl) ?_
                      refine lv_iload_n hx hb dX1_isGood_62 rfl (lv_at hl 4 rfl) ?_
                      refine lv_irem hx hb dX1_isGood_63 (by rw [c_19]; decide) ?_
                      refine lv_if_ne (tgt := 71) hx hb dX1_isGood_64 (by decide) (fun c_24 => ?_) (fun c_24 => ?_)
                      · refine lv_iconst (v := 0) hx hb dX1_isGood_71 (by decide) ?_
                        exact W.zret (v := 0) hx hb hr rfl (fun t ht hW => ⟨0, rfl, (by rw [fX1_isGood, if_neg c_1, if_pos c_2, if_pos c_3, if_neg c_4, if_neg c_9, if_neg c_14, if_pos c_19, if_neg c_22, if_neg c_23, if_neg c_24]), ht⟩) (fun q h => nomatch h) dX1_isGood_72
                      · refine lv_iconst (v := 1) hx hb dX1_isGood_67 (by decide) ?_
                        refine lv_goto (tgt := 72) hx hb dX1_isGood_68 (by decide) ?_
                        exact W.zret (v := 1) hx hb hr rfl (fun t ht hW => ⟨1, rfl, (by rw [fX1_isGood, if_neg c_1, if_pos c_2, if_pos c_3, if_neg c_4, if_neg c_9, if_neg c_14, if_pos c_19, if_neg c_22, if_neg c_23, if_pos c_24]), ht⟩) (fun q h => nomatch h) dX1_isGood_72
      · refine lv_iconst (v := 1) hx hb dX1_isGood_16 (by decide) ?_
        exact W.zret (v := 1) hx hb hr rfl (fun t ht hW => ⟨1, rfl, (by rw [fX1_isGood, if_neg c_1, if_pos c_2, if_neg c_3]), ht⟩) (fun q h => nomatch h) dX1_isGood_17
    · refine lv_iconst (v := 0) hx hb dX1_isGood_9 (by decide) ?_
      exact W.zret (v := 0) hx hb hr rfl (fun t ht hW => ⟨0, rfl, (by rw [fX1_isGood, if_neg c_1, if_neg c_2]), ht⟩) (fun q h => nomatch h) dX1_isGood_10

def fX1_filled (p0 p1 : Int32) : Int32 :=
  ((((p0 + p1) - 1) / p1) * p1)

abbrev wsX1_filled : List Cond := .code yX1_filled cX1_filled 2 (some .int) :: wG
set_option maxHeartbeats 4000000 in
set_option maxRecDepth 100000 in
theorem mX1_filled (l : Launch) (p0 p1 : Int32) (hp : ¬ p1 = 0) : Met l yX1_filled wsX1_filled ({ frames := 0, cells := 0, slots := 0, locals := 0 }) (va_Pc [.int p0, .int p1] (fun _ => True)) (vp_Si (fun r => r = fX1_filled p0 p1)) 0 0 (fun _ => False) := by
  refine Met.ofW (cc := cX1_filled) (maxL := 2) (ret := (some .int)) (by decide) rfl ?_
  intro p e s m args below meth c s₁ B hml hv
  obtain ⟨rfl, -⟩ := hv
  have hx := B.exec
  have hb := B.bytes
  have hr := B.returns
  have hts := atoms_spec (ws := wsX1_filled) B.pre
  have htG := fun (w : Cond) (h : w ∈ wG) => hts w (List.mem_cons_of_mem _ h)
  have hown : s.vm.findClass RX1 = some m.cls := findClass_of_methodNamed B.named
  have hlocks := B.notSynchronized
  have hl := lv_entry ([.int p0, .int p1]) (n := 2) (Nat.le_of_ble_eq_true rfl)
  rw [lg_entry_eq]
  generalize (lg_sl ([.int p0, .int p1]) ++ List.replicate (2 - (lg_sl ([.int p0, .int p1])).length) Slot.unset).toArray = ls at hl ⊢
  have hl : lv_has ls 2 [(0, .int p0), (1, .int p1)] := hl
  refine lv_iload_n hx hb dX1_filled_0 rfl (lv_at hl 0 rfl) ?_
  refine lv_iload_n hx hb dX1_filled_1 rfl (lv_at hl 1 rfl) ?_
  refine lv_iadd hx hb dX1_filled_2 ?_
  refine lv_iconst (v := 1) hx hb dX1_filled_3 (by decide) ?_
  refine lv_isub hx hb dX1_filled_4 ?_
  refine lv_iload_n hx hb dX1_filled_5 rfl (lv_at hl 1 rfl) ?_
  refine lv_idiv hx hb dX1_filled_6 hp ?_
  refine lv_iload_n hx hb dX1_filled_7 rfl (lv_at hl 1 rfl) ?_
  refine lv_imul hx hb dX1_filled_8 ?_
  exact W.iret (v := ((((p0 + p1) - 1) / p1) * p1)) hx hb hr (fun t ht hW => ⟨((((p0 + p1) - 1) / p1) * p1), rfl, (by rw [fX1_filled]), ht⟩) (fun q h => nomatch h) dX1_filled_9

def fX1_bytes (mk1 mk2 : Nat → Int32) (p0 : Int32) : Int32 :=
  if (mk1 (p0 : Int32).toNatClampNeg) = 2 then 8
  else if (mk1 (p0 : Int32).toNatClampNeg) = 3 then (mk2 (p0 : Int32).toNatClampNeg)
    else 4

abbrev wsX1_bytes : List Cond := .code yX1_bytes cX1_bytes 2 (some .int) :: wG
set_option maxHeartbeats 4000000 in
set_option maxRecDepth 100000 in
theorem mX1_bytes (l : Launch) (dC : Nat → ClassId) (dI : Nat → Nat → Nat) (mh0 mh1 mh2 mh3 : Nat) (mc1 mc2 mc3 : ClassId) (mk1 mk2 mk3 : Nat → Int32) (mf0 mf1 mf2 mf3 mf4 mf5 mf6 mf7 mf8 mf9 : Int32) (p0 : Int32) (hp : vp_in p0 60) : Met l yX1_bytes wsX1_bytes ({ frames := 0, cells := 0, slots := 0, locals := 0 }) (va_Pc [.ref mh0, .int p0] (fun U => va_P (dC, dI) vwCl (mW mh0 mh1 mh2 mh3 mc1 mc2 mc3 mk1 mk2 mk3 mf0 mf1 mf2 mf3 mf4 mf5 mf6 mf7 mf8 mf9) U.heap ∧ va_K (dC, dI) vwCl [(mc1, .int), (mc2, .int), (mc3, .int)] U)) (vp_Si (fun r => r = fX1_bytes mk1 mk2 p0)) 0 0 (fun _ => False) := by
  refine Met.ofW (cc := cX1_bytes) (maxL := 2) (ret := (some .int)) (by decide) rfl ?_
  intro p e s m args below meth c s₁ B hml hv
  obtain ⟨rfl, hP, hK⟩ := hv
  have hx := B.exec
  have hb := B.bytes
  have hr := B.returns
  have hts := atoms_spec (ws := wsX1_bytes) B.pre
  have htG := fun (w : Cond) (h : w ∈ wG) => hts w (List.mem_cons_of_mem _ h)
  have hown : s.vm.findClass RX1 = some m.cls := findClass_of_methodNamed B.named
  have hlocks := B.notSynchronized
  have hl := lv_entry ([.ref mh0, .int p0]) (n := 2) (Nat.le_of_ble_eq_true rfl)
  rw [lg_entry_eq]
  generalize (lg_sl ([.ref mh0, .int p0]) ++ List.replicate (2 - (lg_sl ([.ref mh0, .int p0])).length) Slot.unset).toArray = ls at hl ⊢
  have hl : lv_has ls 2 [(0, .ref mh0), (1, .int p0)] := hl
  refine lv_aload_n hx hb dX1_bytes_0 rfl (lv_at hl 0 rfl) ?_
  refine va_get (D := (dC, dI)) (ci := 1) (v := .ref mh1) (C := RX1) (T := TX1) (N := 13) hx hb htG inX1 hown hK hP 0 rfl rfl 10 (by decide) (htG _ wd_341) (fun _ h9 => h9) rfl dX1_bytes_1 ?_
  refine lv_iload_n hx hb dX1_bytes_4 rfl (lv_at hl 1 rfl) ?_
  refine va_iald hx hb hK hP 1 0 rfl rfl hp dX1_bytes_5 ?_
  refine lv_iconst (v := 2) hx hb dX1_bytes_6 (by decide) ?_
  refine lv_icmp_ne (tgt := 15) hx hb dX1_bytes_7 (by decide) (fun c_1 => ?_) (fun c_1 => ?_)
  · refine lv_aload_n hx hb dX1_bytes_15 rfl (lv_at hl 0 rfl) ?_
    refine va_get (D := (dC, dI)) (ci := 1) (v := .ref mh1) (C := RX1) (T := TX1) (N := 13) hx hb htG inX1 hown hK hP 0 rfl rfl 10 (by decide) (htG _ wd_341) (fun _ h9 => h9) rfl dX1_bytes_16 ?_
    refine lv_iload_n hx hb dX1_bytes_19 rfl (lv_at hl 1 rfl) ?_
    refine va_iald hx hb hK hP 1 0 rfl rfl hp dX1_bytes_20 ?_
    refine lv_iconst (v := 3) hx hb dX1_bytes_21 (by decide) ?_
    refine lv_icmp_ne (tgt := 34) hx hb dX1_bytes_22 (by decide) (fun c_2 => ?_) (fun c_2 => ?_)
    · refine lv_iconst (v := 4) hx hb dX1_bytes_34 (by decide) ?_
      exact W.iret (v := 4) hx hb hr (fun t ht hW => ⟨4, rfl, (by rw [fX1_bytes, if_neg c_1, if_neg c_2]), ht⟩) (fun q h => nomatch h) dX1_bytes_35
    · refine lv_aload_n hx hb dX1_bytes_25 rfl (lv_at hl 0 rfl) ?_
      refine va_get (D := (dC, dI)) (ci := 1) (v := .ref mh2) (C := RX1) (T := TX1) (N := 13) hx hb htG inX1 hown hK hP 0 rfl rfl 11 (by decide) (htG _ wd_342) (fun _ h9 => h9) rfl dX1_bytes_26 ?_
      refine lv_iload_n hx hb dX1_bytes_29 rfl (lv_at hl 1 rfl) ?_
      refine va_iald hx hb hK hP 2 1 rfl rfl hp dX1_bytes_30 ?_
      refine lv_goto (tgt := 35) hx hb dX1_bytes_31 (by decide) ?_
      exact W.iret (v := (mk2 (p0 : Int32).toNatClampNeg)) hx hb hr (fun t ht hW => ⟨(mk2 (p0 : Int32).toNatClampNeg), rfl, (by rw [fX1_bytes, if_neg c_1, if_pos c_2]), ht⟩) (fun q h => nomatch h) dX1_bytes_35
  · refine lv_bipush (v := 8) hx hb dX1_bytes_10 (by decide) ?_
    refine lv_goto (tgt := 35) hx hb dX1_bytes_12 (by decide) ?_
    exact W.iret (v := 8) hx hb hr (fun t ht hW => ⟨8, rfl, (by rw [fX1_bytes, if_pos c_1]), ht⟩) (fun q h => nomatch h) dX1_bytes_35

def fX1_isWide (mk1 mk3 : Nat → Int32) (p0 : Int32) : Int32 :=
  if (mk1 (p0 : Int32).toNatClampNeg) = 2 then 1
  else if (mk1 (p0 : Int32).toNatClampNeg) = 3 then (if (mk3 (p0 : Int32).toNatClampNeg) = 8 then 1
      else 0)
    else 0
theorem bbX1_isWide {mk1 mk3 : Nat → Int32} {p0 : Int32} : fX1_isWide mk1 mk3 p0 = 0 ∨ fX1_isWide mk1 mk3 p0 = 1 := by
  unfold fX1_isWide
  repeat' split
  all_goals first | exact Or.inl rfl | exact Or.inr rfl | exact bbX0_isRecord | exact bbX0_isAdded | exact bbX0_isArgument | exact bbX0_isFractional | exact bbX0_isInFraction | exact bbX1_isGood
theorem nbX1_isWide {mk1 mk3 : Nat → Int32} {p0 : Int32} : narrow .boolean (.int (fX1_isWide mk1 mk3 p0)) = .int (fX1_isWide mk1 mk3 p0) := nb_of bbX1_isWide

abbrev wsX1_isWide : List Cond := .code yX1_isWide cX1_isWide 2 (some .boolean) :: wG
set_option maxHeartbeats 4000000 in
set_option maxRecDepth 100000 in
theorem mX1_isWide (l : Launch) (dC : Nat → ClassId) (dI : Nat → Nat → Nat) (mh0 mh1 mh2 mh3 : Nat) (mc1 mc2 mc3 : ClassId) (mk1 mk2 mk3 : Nat → Int32) (mf0 mf1 mf2 mf3 mf4 mf5 mf6 mf7 mf8 mf9 : Int32) (p0 : Int32) (hp : vp_in p0 60) : Met l yX1_isWide wsX1_isWide ({ frames := 0, cells := 0, slots := 0, locals := 0 }) (va_Pc [.ref mh0, .int p0] (fun U => va_P (dC, dI) vwCl (mW mh0 mh1 mh2 mh3 mc1 mc2 mc3 mk1 mk2 mk3 mf0 mf1 mf2 mf3 mf4 mf5 mf6 mf7 mf8 mf9) U.heap ∧ va_K (dC, dI) vwCl [(mc1, .int), (mc2, .int), (mc3, .int)] U)) (vp_Si (fun r => r = fX1_isWide mk1 mk3 p0)) 0 0 (fun _ => False) := by
  refine Met.ofW (cc := cX1_isWide) (maxL := 2) (ret := (some .boolean)) (by decide) rfl ?_
  intro p e s m args below meth c s₁ B hml hv
  obtain ⟨rfl, hP, hK⟩ := hv
  have hx := B.exec
  have hb := B.bytes
  have hr := B.returns
  have hts := atoms_spec (ws := wsX1_isWide) B.pre
  have htG := fun (w : Cond) (h : w ∈ wG) => hts w (List.mem_cons_of_mem _ h)
  have hown : s.vm.findClass RX1 = some m.cls := findClass_of_methodNamed B.named
  have hlocks := B.notSynchronized
  have hl := lv_entry ([.ref mh0, .int p0]) (n := 2) (Nat.le_of_ble_eq_true rfl)
  rw [lg_entry_eq]
  generalize (lg_sl ([.ref mh0, .int p0]) ++ List.replicate (2 - (lg_sl ([.ref mh0, .int p0])).length) Slot.unset).toArray = ls at hl ⊢
  have hl : lv_has ls 2 [(0, .ref mh0), (1, .int p0)] := hl
  refine lv_aload_n hx hb dX1_isWide_0 rfl (lv_at hl 0 rfl) ?_
  refine va_get (D := (dC, dI)) (ci := 1) (v := .ref mh1) (C := RX1) (T := TX1) (N := 13) hx hb htG inX1 hown hK hP 0 rfl rfl 10 (by decide) (htG _ wd_341) (fun _ h9 => h9) rfl dX1_isWide_1 ?_
  refine lv_iload_n hx hb dX1_isWide_4 rfl (lv_at hl 1 rfl) ?_
  refine va_iald hx hb hK hP 1 0 rfl rfl hp dX1_isWide_5 ?_
  refine lv_iconst (v := 2) hx hb dX1_isWide_6 (by decide) ?_
  refine lv_icmp_eq (tgt := 31) hx hb dX1_isWide_7 (by decide) (fun c_1 => ?_) (fun c_1 => ?_)
  · refine lv_iconst (v := 1) hx hb dX1_isWide_31 (by decide) ?_
    refine lv_goto (tgt := 36) hx hb dX1_isWide_32 (by decide) ?_
    exact W.zret (v := 1) hx hb hr rfl (fun t ht hW => ⟨1, rfl, (by rw [fX1_isWide, if_pos c_1]), ht⟩) (fun q h => nomatch h) dX1_isWide_36
  · refine lv_aload_n hx hb dX1_isWide_10 rfl (lv_at hl 0 rfl) ?_
    refine va_get (D := (dC, dI)) (ci := 1) (v := .ref mh1) (C := RX1) (T := TX1) (N := 13) hx hb htG inX1 hown hK hP 0 rfl rfl 10 (by decide) (htG _ wd_341) (fun _ h9 => h9) rfl dX1_isWide_11 ?_
    refine lv_iload_n hx hb dX1_isWide_14 rfl (lv_at hl 1 rfl) ?_
    refine va_iald hx hb hK hP 1 0 rfl rfl hp dX1_isWide_15 ?_
    refine lv_iconst (v := 3) hx hb dX1_isWide_16 (by decide) ?_
    refine lv_icmp_ne (tgt := 35) hx hb dX1_isWide_17 (by decide) (fun c_2 => ?_) (fun c_2 => ?_)
    · refine lv_iconst (v := 0) hx hb dX1_isWide_35 (by decide) ?_
      exact W.zret (v := 0) hx hb hr rfl (fun t ht hW => ⟨0, rfl, (by rw [fX1_isWide, if_neg c_1, if_neg c_2]), ht⟩) (fun q h => nomatch h) dX1_isWide_36
    · refine lv_aload_n hx hb dX1_isWide_20 rfl (lv_at hl 0 rfl) ?_
      refine va_get (D := (dC, dI)) (ci := 1) (v := .ref mh3) (C := RX1) (T := TX1) (N := 13) hx hb htG inX1 hown hK hP 0 rfl rfl 12 (by decide) (htG _ wd_343) (fun _ h9 => h9) rfl dX1_isWide_21 ?_
      refine lv_iload_n hx hb dX1_isWide_24 rfl (lv_at hl 1 rfl) ?_
      refine va_iald hx hb hK hP 3 2 rfl rfl hp dX1_isWide_25 ?_
      refine lv_bipush (v := 8) hx hb dX1_isWide_26 (by decide) ?_
      refine lv_icmp_ne (tgt := 35) hx hb dX1_isWide_28 (by decide) (fun c_3 => ?_) (fun c_3 => ?_)
      · refine lv_iconst (v := 0) hx hb dX1_isWide_35 (by decide) ?_
        exact W.zret (v := 0) hx hb hr rfl (fun t ht hW => ⟨0, rfl, (by rw [fX1_isWide, if_neg c_1, if_pos c_2, if_neg c_3]), ht⟩) (fun q h => nomatch h) dX1_isWide_36
      · refine lv_iconst (v := 1) hx hb dX1_isWide_31 (by decide) ?_
        refine lv_goto (tgt := 36) hx hb dX1_isWide_32 (by decide) ?_
        exact W.zret (v := 1) hx hb hr rfl (fun t ht hW => ⟨1, rfl, (by rw [fX1_isWide, if_neg c_1, if_pos c_2, if_pos c_3]), ht⟩) (fun q h => nomatch h) dX1_isWide_36

def fX1_isFraction (mk1 : Nat → Int32) (p0 : Int32) : Int32 :=
  if (mk1 (p0 : Int32).toNatClampNeg) = 1 then 1
  else if (mk1 (p0 : Int32).toNatClampNeg) = 2 then 1
    else 0
theorem bbX1_isFraction {mk1 : Nat → Int32} {p0 : Int32} : fX1_isFraction mk1 p0 = 0 ∨ fX1_isFraction mk1 p0 = 1 := by
  unfold fX1_isFraction
  repeat' split
  all_goals first | exact Or.inl rfl | exact Or.inr rfl | exact bbX0_isRecord | exact bbX0_isAdded | exact bbX0_isArgument | exact bbX0_isFractional | exact bbX0_isInFraction | exact bbX1_isGood | exact bbX1_isWide
theorem nbX1_isFraction {mk1 : Nat → Int32} {p0 : Int32} : narrow .boolean (.int (fX1_isFraction mk1 p0)) = .int (fX1_isFraction mk1 p0) := nb_of bbX1_isFraction

abbrev wsX1_isFraction : List Cond := .code yX1_isFraction cX1_isFraction 2 (some .boolean) :: wG
set_option maxHeartbeats 4000000 in
set_option maxRecDepth 100000 in
theorem mX1_isFraction (l : Launch) (dC : Nat → ClassId) (dI : Nat → Nat → Nat) (mh0 mh1 mh2 mh3 : Nat) (mc1 mc2 mc3 : ClassId) (mk1 mk2 mk3 : Nat → Int32) (mf0 mf1 mf2 mf3 mf4 mf5 mf6 mf7 mf8 mf9 : Int32) (p0 : Int32) (hp : vp_in p0 60) : Met l yX1_isFraction wsX1_isFraction ({ frames := 0, cells := 0, slots := 0, locals := 0 }) (va_Pc [.ref mh0, .int p0] (fun U => va_P (dC, dI) vwCl (mW mh0 mh1 mh2 mh3 mc1 mc2 mc3 mk1 mk2 mk3 mf0 mf1 mf2 mf3 mf4 mf5 mf6 mf7 mf8 mf9) U.heap ∧ va_K (dC, dI) vwCl [(mc1, .int), (mc2, .int), (mc3, .int)] U)) (vp_Si (fun r => r = fX1_isFraction mk1 p0)) 0 0 (fun _ => False) := by
  refine Met.ofW (cc := cX1_isFraction) (maxL := 2) (ret := (some .boolean)) (by decide) rfl ?_
  intro p e s m args below meth c s₁ B hml hv
  obtain ⟨rfl, hP, hK⟩ := hv
  have hx := B.exec
  have hb := B.bytes
  have hr := B.returns
  have hts := atoms_spec (ws := wsX1_isFraction) B.pre
  have htG := fun (w : Cond) (h : w ∈ wG) => hts w (List.mem_cons_of_mem _ h)
  have hown : s.vm.findClass RX1 = some m.cls := findClass_of_methodNamed B.named
  have hlocks := B.notSynchronized
  have hl := lv_entry ([.ref mh0, .int p0]) (n := 2) (Nat.le_of_ble_eq_true rfl)
  rw [lg_entry_eq]
  generalize (lg_sl ([.ref mh0, .int p0]) ++ List.replicate (2 - (lg_sl ([.ref mh0, .int p0])).length) Slot.unset).toArray = ls at hl ⊢
  have hl : lv_has ls 2 [(0, .ref mh0), (1, .int p0)] := hl
  refine lv_aload_n hx hb dX1_isFraction_0 rfl (lv_at hl 0 rfl) ?_
  refine va_get (D := (dC, dI)) (ci := 1) (v := .ref mh1) (C := RX1) (T := TX1) (N := 13) hx hb htG inX1 hown hK hP 0 rfl rfl 10 (by decide) (htG _ wd_341) (fun _ h9 => h9) rfl dX1_isFraction_1 ?_
  refine lv_iload_n hx hb dX1_isFraction_4 rfl (lv_at hl 1 rfl) ?_
  refine va_iald hx hb hK hP 1 0 rfl rfl hp dX1_isFraction_5 ?_
  refine lv_iconst (v := 1) hx hb dX1_isFraction_6 (by decide) ?_
  refine lv_icmp_eq (tgt := 20) hx hb dX1_isFraction_7 (by decide) (fun c_1 => ?_) (fun c_1 => ?_)
  · refine lv_iconst (v := 1) hx hb dX1_isFraction_20 (by decide) ?_
    refine lv_goto (tgt := 25) hx hb dX1_isFraction_21 (by decide) ?_
    exact W.zret (v := 1) hx hb hr rfl (fun t ht hW => ⟨1, rfl, (by rw [fX1_isFraction, if_pos c_1]), ht⟩) (fun q h => nomatch h) dX1_isFraction_25
  · refine lv_aload_n hx hb dX1_isFraction_10 rfl (lv_at hl 0 rfl) ?_
    refine va_get (D := (dC, dI)) (ci := 1) (v := .ref mh1) (C := RX1) (T := TX1) (N := 13) hx hb htG inX1 hown hK hP 0 rfl rfl 10 (by decide) (htG _ wd_341) (fun _ h9 => h9) rfl dX1_isFraction_11 ?_
    refine lv_iload_n hx hb dX1_isFraction_14 rfl (lv_at hl 1 rfl) ?_
    refine va_iald hx hb hK hP 1 0 rfl rfl hp dX1_isFraction_15 ?_
    refine lv_iconst (v := 2) hx hb dX1_isFraction_16 (by decide) ?_
    refine lv_icmp_ne (tgt := 24) hx hb dX1_isFraction_17 (by decide) (fun c_2 => ?_) (fun c_2 => ?_)
    · refine lv_iconst (v := 0) hx hb dX1_isFraction_24 (by decide) ?_
      exact W.zret (v := 0) hx hb hr rfl (fun t ht hW => ⟨0, rfl, (by rw [fX1_isFraction, if_neg c_1, if_neg c_2]), ht⟩) (fun q h => nomatch h) dX1_isFraction_25
    · refine lv_iconst (v := 1) hx hb dX1_isFraction_20 (by decide) ?_
      refine lv_goto (tgt := 25) hx hb dX1_isFraction_21 (by decide) ?_
      exact W.zret (v := 1) hx hb hr rfl (fun t ht hW => ⟨1, rfl, (by rw [fX1_isFraction, if_neg c_1, if_pos c_2]), ht⟩) (fun q h => nomatch h) dX1_isFraction_25

def fX1_isThere (mf1 mf2 : Int32) (p0 : Int32) : Int32 :=
  if p0 < 0 then (if p0 = (-1) then (if mf1 = 3 then 1
      else 0)
    else 0)
  else if p0 < mf2 then 1
    else if p0 = (-1) then (if mf1 = 3 then 1
        else 0)
      else 0
theorem bbX1_isThere {mf1 mf2 p0 : Int32} : fX1_isThere mf1 mf2 p0 = 0 ∨ fX1_isThere mf1 mf2 p0 = 1 := by
  unfold fX1_isThere
  repeat' split
  all_goals first | exact Or.inl rfl | exact Or.inr rfl | exact bbX0_isRecord | exact bbX0_isAdded | exact bbX0_isArgument | exact bbX0_isFractional | exact bbX0_isInFraction | exact bbX1_isGood | exact bbX1_isWide | exact bbX1_isFraction
theorem nbX1_isThere {mf1 mf2 p0 : Int32} : narrow .boolean (.int (fX1_isThere mf1 mf2 p0)) = .int (fX1_isThere mf1 mf2 p0) := nb_of bbX1_isThere

abbrev wsX1_isThere : List Cond := .code yX1_isThere cX1_isThere 2 (some .boolean) :: wG
set_option maxHeartbeats 4000000 in
set_option maxRecDepth 100000 in
theorem mX1_isThere (l : Launch) (dC : Nat → ClassId) (dI : Nat → Nat → Nat) (mh0 mh1 mh2 mh3 : Nat) (mc1 mc2 mc3 : ClassId) (mk1 mk2 mk3 : Nat → Int32) (mf0 mf1 mf2 mf3 mf4 mf5 mf6 mf7 mf8 mf9 : Int32) (p0 : Int32)  : Met l yX1_isThere wsX1_isThere ({ frames := 0, cells := 0, slots := 0, locals := 0 }) (va_Pc [.ref mh0, .int p0] (fun U => va_P (dC, dI) vwCl (mW mh0 mh1 mh2 mh3 mc1 mc2 mc3 mk1 mk2 mk3 mf0 mf1 mf2 mf3 mf4 mf5 mf6 mf7 mf8 mf9) U.heap ∧ va_K (dC, dI) vwCl [(mc1, .int), (mc2, .int), (mc3, .int)] U)) (vp_Si (fun r => r = fX1_isThere mf1 mf2 p0)) 0 0 (fun _ => False) := by
  refine Met.ofW (cc := cX1_isThere) (maxL := 2) (ret := (some .boolean)) (by decide) rfl ?_
  intro p e s m args below meth c s₁ B hml hv
  obtain ⟨rfl, hP, hK⟩ := hv
  have hx := B.exec
  have hb := B.bytes
  have hr := B.returns
  have hts := atoms_spec (ws := wsX1_isThere) B.pre
  have htG := fun (w : Cond) (h : w ∈ wG) => hts w (List.mem_cons_of_mem _ h)
  have hown : s.vm.findClass RX1 = some m.cls := findClass_of_methodNamed B.named
  have hlocks := B.notSynchronized
  have hl := lv_entry ([.ref mh0, .int p0]) (n := 2) (Nat.le_of_ble_eq_true rfl)
  rw [lg_entry_eq]
  generalize (lg_sl ([.ref mh0, .int p0]) ++ List.replicate (2 - (lg_sl ([.ref mh0, .int p0])).length) Slot.unset).toArray = ls at hl ⊢
  have hl : lv_has ls 2 [(0, .ref mh0), (1, .int p0)] := hl
  refine lv_iload_n hx hb dX1_isThere_0 rfl (lv_at hl 1 rfl) ?_
  refine lv_if_lt (tgt := 12) hx hb dX1_isThere_1 (by decide) (fun c_1 => ?_) (fun c_1 => ?_)
  · refine lv_iload_n hx hb dX1_isThere_12 rfl (lv_at hl 1 rfl) ?_
    refine lv_iconst (v := (-1)) hx hb dX1_isThere_13 (by decide) ?_
    refine lv_icmp_ne (tgt := 29) hx hb dX1_isThere_14 (by decide) (fun c_2 => ?_) (fun c_2 => ?_)
    · refine lv_iconst (v := 0) hx hb dX1_isThere_29 (by decide) ?_
      exact W.zret (v := 0) hx hb hr rfl (fun t ht hW => ⟨0, rfl, (by rw [fX1_isThere, if_pos c_1, if_neg c_2]), ht⟩) (fun q h => nomatch h) dX1_isThere_30
    · refine lv_aload_n hx hb dX1_isThere_17 rfl (lv_at hl 0 rfl) ?_
      refine va_get (D := (dC, dI)) (ci := 1) (v := .int mf1) (C := RX1) (T := TX1) (N := 13) hx hb htG inX1 hown hK hP 0 rfl rfl 1 (by decide) (htG _ wd_332) (fun _ h9 => h9) rfl dX1_isThere_18 ?_
      refine lv_iconst (v := 3) hx hb dX1_isThere_21 (by decide) ?_
      refine lv_icmp_ne (tgt := 29) hx hb dX1_isThere_22 (by decide) (fun c_3 => ?_) (fun c_3 => ?_)
      · refine lv_iconst (v := 0) hx hb dX1_isThere_29 (by decide) ?_
        exact W.zret (v := 0) hx hb hr rfl (fun t ht hW => ⟨0, rfl, (by rw [fX1_isThere, if_pos c_1, if_pos c_2, if_neg c_3]), ht⟩) (fun q h => nomatch h) dX1_isThere_30
      · refine lv_iconst (v := 1) hx hb dX1_isThere_25 (by decide) ?_
        refine lv_goto (tgt := 30) hx hb dX1_isThere_26 (by decide) ?_
        exact W.zret (v := 1) hx hb hr rfl (fun t ht hW => ⟨1, rfl, (by rw [fX1_isThere, if_pos c_1, if_pos c_2, if_pos c_3]), ht⟩) (fun q h => nomatch h) dX1_isThere_30
  · refine lv_iload_n hx hb dX1_isThere_4 rfl (lv_at hl 1 rfl) ?_
    refine lv_aload_n hx hb dX1_isThere_5 rfl (lv_at hl 0 rfl) ?_
    refine va_get (D := (dC, dI)) (ci := 1) (v := .int mf2) (C := RX1) (T := TX1) (N := 13) hx hb htG inX1 hown hK hP 0 rfl rfl 2 (by decide) (htG _ wd_333) (fun _ h9 => h9) rfl dX1_isThere_6 ?_
    refine lv_icmp_lt (tgt := 25) hx hb dX1_isThere_9 (by decide) (fun c_4 => ?_) (fun c_4 => ?_)
    · refine lv_iconst (v := 1) hx hb dX1_isThere_25 (by decide) ?_
      refine lv_goto (tgt := 30) hx hb dX1_isThere_26 (by decide) ?_
      exact W.zret (v := 1) hx hb hr rfl (fun t ht hW => ⟨1, rfl, (by rw [fX1_isThere, if_neg c_1, if_pos c_4]), ht⟩) (fun q h => nomatch h) dX1_isThere_30
    · refine lv_iload_n hx hb dX1_isThere_12 rfl (lv_at hl 1 rfl) ?_
      refine lv_iconst (v := (-1)) hx hb dX1_isThere_13 (by decide) ?_
      refine lv_icmp_ne (tgt := 29) hx hb dX1_isThere_14 (by decide) (fun c_5 => ?_) (fun c_5 => ?_)
      · refine lv_iconst (v := 0) hx hb dX1_isThere_29 (by decide) ?_
        exact W.zret (v := 0) hx hb hr rfl (fun t ht hW => ⟨0, rfl, (by rw [fX1_isThere, if_neg c_1, if_neg c_4, if_neg c_5]), ht⟩) (fun q h => nomatch h) dX1_isThere_30
      · refine lv_aload_n hx hb dX1_isThere_17 rfl (lv_at hl 0 rfl) ?_
        refine va_get (D := (dC, dI)) (ci := 1) (v := .int mf1) (C := RX1) (T := TX1) (N := 13) hx hb htG inX1 hown hK hP 0 rfl rfl 1 (by decide) (htG _ wd_332) (fun _ h9 => h9) rfl dX1_isThere_18 ?_
        refine lv_iconst (v := 3) hx hb dX1_isThere_21 (by decide) ?_
        refine lv_icmp_ne (tgt := 29) hx hb dX1_isThere_22 (by decide) (fun c_6 => ?_) (fun c_6 => ?_)
        · refine lv_iconst (v := 0) hx hb dX1_isThere_29 (by decide) ?_
          exact W.zret (v := 0) hx hb hr rfl (fun t ht hW => ⟨0, rfl, (by rw [fX1_isThere, if_neg c_1, if_neg c_4, if_pos c_5, if_neg c_6]), ht⟩) (fun q h => nomatch h) dX1_isThere_30
        · refine lv_iconst (v := 1) hx hb dX1_isThere_25 (by decide) ?_
          refine lv_goto (tgt := 30) hx hb dX1_isThere_26 (by decide) ?_
          exact W.zret (v := 1) hx hb hr rfl (fun t ht hW => ⟨1, rfl, (by rw [fX1_isThere, if_neg c_1, if_neg c_4, if_pos c_5, if_pos c_6]), ht⟩) (fun q h => nomatch h) dX1_isThere_30

def fX1_words (mk1 mk2 : Nat → Int32) (p0 : Int32) : Int32 :=
  if p0 = (-1) then 1
  else ((fX1_filled (fX1_bytes mk1 mk2 p0) 4) / 4)

abbrev wsX1_words : List Cond := .code yX1_words cX1_words 2 (some .int) :: wG
set_option maxHeartbeats 4000000 in
set_option maxRecDepth 100000 in
theorem mX1_words (l : Launch) (dC : Nat → ClassId) (dI : Nat → Nat → Nat) (mh0 mh1 mh2 mh3 : Nat) (mc1 mc2 mc3 : ClassId) (mk1 mk2 mk3 : Nat → Int32) (mf0 mf1 mf2 mf3 mf4 mf5 mf6 mf7 mf8 mf9 : Int32) (p0 : Int32) (hp : ¬ p0 = (-1) → vp_in p0 60) : Met l yX1_words wsX1_words ({ frames := 1, cells := 0, slots := 0, locals := 21 }) (va_Pc [.ref mh0, .int p0] (fun U => va_P (dC, dI) vwCl (mW mh0 mh1 mh2 mh3 mc1 mc2 mc3 mk1 mk2 mk3 mf0 mf1 mf2 mf3 mf4 mf5 mf6 mf7 mf8 mf9) U.heap ∧ va_K (dC, dI) vwCl [(mc1, .int), (mc2, .int), (mc3, .int)] U)) (vp_Si (fun r => r = fX1_words mk1 mk2 p0)) 0 0 (fun _ => False) := by
  refine Met.ofW (cc := cX1_words) (maxL := 2) (ret := (some .int)) (by decide) rfl ?_
  intro p e s m args below meth c s₁ B hml hv
  obtain ⟨rfl, hP, hK⟩ := hv
  have hx := B.exec
  have hb := B.bytes
  have hr := B.returns
  have hts := atoms_spec (ws := wsX1_words) B.pre
  have htG := fun (w : Cond) (h : w ∈ wG) => hts w (List.mem_cons_of_mem _ h)
  have hown : s.vm.findClass RX1 = some m.cls := findClass_of_methodNamed B.named
  have hlocks := B.notSynchronized
  have hl := lv_entry ([.ref mh0, .int p0]) (n := 2) (Nat.le_of_ble_eq_true rfl)
  rw [lg_entry_eq]
  generalize (lg_sl ([.ref mh0, .int p0]) ++ List.replicate (2 - (lg_sl ([.ref mh0, .int p0])).length) Slot.unset).toArray = ls at hl ⊢
  have hl : lv_has ls 2 [(0, .ref mh0), (1, .int p0)] := hl
  refine lv_iload_n hx hb dX1_words_0 rfl (lv_at hl 1 rfl) ?_
  refine lv_iconst (v := (-1)) hx hb dX1_words_1 (by decide) ?_
  refine lv_icmp_ne (tgt := 9) hx hb dX1_words_2 (by decide) (fun c_1 => ?_) (fun c_1 => ?_)
  · refine lv_aload_n hx hb dX1_words_9 rfl (lv_at hl 0 rfl) ?_
    refine lv_iload_n hx hb dX1_words_10 rfl (lv_at hl 1 rfl) ?_
    refine vp_callSi (va_runV (As := [.int p0]) (rest := []) ⟨hx, hb, hml, hown, htG⟩ (mX1_bytes l dC dI mh0 mh1 mh2 mh3 mc1 mc2 mc3 mk1 mk2 mk3 mf0 mf1 mf2 mf3 mf4 mf5 mf6 mf7 mf8 mf9 p0 (hp c_1)) (cwV 1 htG (wG_V wd_402 wd_404 wd_14 wd_23 wd_405) rfl rfl rfl (by decide +kernel) ⟨Nat.le_of_ble_eq_true rfl, Nat.le_of_ble_eq_true rfl⟩) ⟨fun a U g mk q => by obtain ⟨q0, qP, qK⟩ := q; exact ⟨q0, qP, va_K.moved (u := U) (U := U.calling g mk a) (Vm.Alike.refl U.vm) qK⟩, va_recv hK hP (ci := 1) (q0 := 0) rfl rfl, fun U hU hW => ⟨rfl, by rw [hU]; exact hP, va_K.moved hW.alike hK⟩⟩ rfl rfl hl.1 rfl (lv_room (Nat.le_of_ble_eq_true rfl)) dX1_words_11 ⟨Nat.le_of_ble_eq_true rfl, Nat.le_of_ble_eq_true rfl⟩).run (fun r_1 er_1 => ?_)
    subst er_1
    refine lv_iconst (v := 4) hx hb dX1_words_14 (by decide) ?_
    refine vp_callSi (va_runS (As := [.int (fX1_bytes mk1 mk2 p0), .int 4]) (rest := []) ⟨hx, hb, hml, hown, htG⟩ (mX1_filled l (fX1_bytes mk1 mk2 p0) 4 (by decide)) (va_cwS 2 htG (wG_S wd_399 wd_400 wd_23 wd_401) rfl rfl rfl (by decide +kernel) ⟨Nat.le_of_ble_eq_true rfl, Nat.le_of_ble_eq_true rfl⟩) ⟨fun _ _ _ _ q => q, fun U hU hW => ⟨rfl, trivial⟩⟩ rfl rfl hl.1 rfl (lv_room (Nat.le_of_ble_eq_true rfl)) dX1_words_15 ⟨Nat.le_of_ble_eq_true rfl, Nat.le_of_ble_eq_true rfl⟩).run (fun r_2 er_2 => ?_)
    subst er_2
    refine lv_iconst (v := 4) hx hb dX1_words_18 (by decide) ?_
    refine lv_idiv hx hb dX1_words_19 (by decide) ?_
    exact W.iret (v := ((fX1_filled (fX1_bytes mk1 mk2 p0) 4) / 4)) hx hb hr (fun t ht hW => ⟨((fX1_filled (fX1_bytes mk1 mk2 p0) 4) / 4), rfl, (by rw [fX1_words, if_neg c_1]), ht⟩) (fun q h => nomatch h) dX1_words_20
  · refine lv_iconst (v := 1) hx hb dX1_words_5 (by decide) ?_
    refine lv_goto (tgt := 20) hx hb dX1_words_6 (by decide) ?_
    exact W.iret (v := 1) hx hb hr (fun t ht hW => ⟨1, rfl, (by rw [fX1_words, if_pos c_1]), ht⟩) (fun q h => nomatch h) dX1_words_20

def fX1_fractionsAt (mf7 mf8 : Int32) : Int32 :=
  (fX1_filled (mf8 + mf7) 8)

abbrev wsX1_fractionsAt : List Cond := .code yX1_fractionsAt cX1_fractionsAt 1 (some .int) :: wG
set_option maxHeartbeats 4000000 in
set_option maxRecDepth 100000 in
theorem mX1_fractionsAt (l : Launch) (dC : Nat → ClassId) (dI : Nat → Nat → Nat) (mh0 mh1 mh2 mh3 : Nat) (mc1 mc2 mc3 : ClassId) (mk1 mk2 mk3 : Nat → Int32) (mf0 mf1 mf2 mf3 mf4 mf5 mf6 mf7 mf8 mf9 : Int32)   : Met l yX1_fractionsAt wsX1_fractionsAt ({ frames := 1, cells := 0, slots := 0, locals := 21 }) (va_Pc [.ref mh0] (fun U => va_P (dC, dI) vwCl (mW mh0 mh1 mh2 mh3 mc1 mc2 mc3 mk1 mk2 mk3 mf0 mf1 mf2 mf3 mf4 mf5 mf6 mf7 mf8 mf9) U.heap ∧ va_K (dC, dI) vwCl [(mc1, .int), (mc2, .int), (mc3, .int)] U)) (vp_Si (fun r => r = fX1_fractionsAt mf7 mf8)) 0 0 (fun _ => False) := by
  refine Met.ofW (cc := cX1_fractionsAt) (maxL := 1) (ret := (some .int)) (by decide) rfl ?_
  intro p e s m args below meth c s₁ B hml hv
  obtain ⟨rfl, hP, hK⟩ := hv
  have hx := B.exec
  have hb := B.bytes
  have hr := B.returns
  have hts := atoms_spec (ws := wsX1_fractionsAt) B.pre
  have htG := fun (w : Cond) (h : w ∈ wG) => hts w (List.mem_cons_of_mem _ h)
  have hown : s.vm.findClass RX1 = some m.cls := findClass_of_methodNamed B.named
  have hlocks := B.notSynchronized
  have hl := lv_entry ([.ref mh0]) (n := 1) (Nat.le_of_ble_eq_true rfl)
  rw [lg_entry_eq]
  generalize (lg_sl ([.ref mh0]) ++ List.replicate (1 - (lg_sl ([.ref mh0])).length) Slot.unset).toArray = ls at hl ⊢
  have hl : lv_has ls 1 [(0, .ref mh0)] := hl
  refine lv_aload_n hx hb dX1_fractionsAt_0 rfl (lv_at hl 0 rfl) ?_
  refine va_get (D := (dC, dI)) (ci := 1) (v := .int mf8) (C := RX1) (T := TX1) (N := 13) hx hb htG inX1 hown hK hP 0 rfl rfl 8 (by decide) (htG _ wd_339) (fun _ h9 => h9) rfl dX1_fractionsAt_1 ?_
  refine lv_aload_n hx hb dX1_fractionsAt_4 rfl (lv_at hl 0 rfl) ?_
  refine va_get (D := (dC, dI)) (ci := 1) (v := .int mf7) (C := RX1) (T := TX1) (N := 13) hx hb htG inX1 hown hK hP 0 rfl rfl 7 (by decide) (htG _ wd_338) (fun _ h9 => h9) rfl dX1_fractionsAt_5 ?_
  refine lv_iadd hx hb dX1_fractionsAt_8 ?_
  refine lv_bipush (v := 8) hx hb dX1_fractionsAt_9 (by decide) ?_
  refine vp_callSi (va_runS (As := [.int (mf8 + mf7), .int 8]) (rest := []) ⟨hx, hb, hml, hown, htG⟩ (mX1_filled l (mf8 + mf7) 8 (by decide)) (va_cwS 2 htG (wG_S wd_399 wd_400 wd_23 wd_401) rfl rfl rfl (by decide +kernel) ⟨Nat.le_of_ble_eq_true rfl, Nat.le_of_ble_eq_true rfl⟩) ⟨fun _ _ _ _ q => q, fun U hU hW => ⟨rfl, trivial⟩⟩ rfl rfl hl.1 rfl (lv_room (Nat.le_of_ble_eq_true rfl)) dX1_fractionsAt_11 ⟨Nat.le_of_ble_eq_true rfl, Nat.le_of_ble_eq_true rfl⟩).run (fun r_1 er_1 => ?_)
  subst er_1
  exact W.iret (v := (fX1_filled (mf8 + mf7) 8)) hx hb hr (fun t ht hW => ⟨(fX1_filled (mf8 + mf7) 8), rfl, (by rw [fX1_fractionsAt]), ht⟩) (fun q h => nomatch h) dX1_fractionsAt_14
