def fX1_fail (mk1 mk2 mk3 : Nat → Int32) (mf0 mf1 mf2 mf3 mf4 mf5 mf6 mf7 mf8 mf9 : Int32) (p0 : Int32) : Int32 × Int32 × mWS :=
  (0, 0, (mk1, mk2, mk3, p0, mf1, mf2, mf3, mf4, mf5, mf6, mf7, mf8, mf9))

abbrev wsX1_fail : List Cond := .code yX1_fail cX1_fail 2 (some .int) :: wG
set_option maxHeartbeats 4000000 in
set_option maxRecDepth 100000 in
theorem mX1_fail (l : Launch) (dC : Nat → ClassId) (dI : Nat → Nat → Nat) (mh0 mh1 mh2 mh3 : Nat) (sz : Nat) (mc1 mc2 mc3 : ClassId) (mk1 mk2 mk3 : Nat → Int32) (mf0 mf1 mf2 mf3 mf4 mf5 mf6 mf7 mf8 mf9 : Int32) (p0 : Int32)  : Met l yX1_fail wsX1_fail ({ frames := 0, cells := 0, slots := 0, locals := 0 }) (va_Pc [.ref mh0, .int p0] (fun U => U.heap.size = sz ∧ va_P (dC, dI) vwCl (mW mh0 mh1 mh2 mh3 mc1 mc2 mc3 mk1 mk2 mk3 mf0 mf1 mf2 mf3 mf4 mf5 mf6 mf7 mf8 mf9) U.heap ∧ va_K (dC, dI) vwCl [(mc1, .int), (mc2, .int), (mc3, .int)] U ∧ va_D (fun _ => True) (mW mh0 mh1 mh2 mh3 mc1 mc2 mc3 mk1 mk2 mk3 mf0 mf1 mf2 mf3 mf4 mf5 mf6 mf7 mf8 mf9))) (va_Qi (fun r u => (0, r, u) = fX1_fail mk1 mk2 mk3 mf0 mf1 mf2 mf3 mf4 mf5 mf6 mf7 mf8 mf9 p0) (mWB dC dI (va_A (mW mh0 mh1 mh2 mh3 mc1 mc2 mc3 mk1 mk2 mk3 mf0 mf1 mf2 mf3 mf4 mf5 mf6 mf7 mf8 mf9) sz) mh0 mh1 mh2 mh3 mc1 mc2 mc3) (va_A (mW mh0 mh1 mh2 mh3 mc1 mc2 mc3 mk1 mk2 mk3 mf0 mf1 mf2 mf3 mf4 mf5 mf6 mf7 mf8 mf9) sz)) 0 0 (va_A (mW mh0 mh1 mh2 mh3 mc1 mc2 mc3 mk1 mk2 mk3 mf0 mf1 mf2 mf3 mf4 mf5 mf6 mf7 mf8 mf9) sz) := by
  refine Met.ofW (cc := cX1_fail) (maxL := 2) (ret := (some .int)) (by decide) rfl ?_
  intro p e s m args below meth c s₁ B hml hv
  obtain ⟨rfl, hsz, hP, hK, hD0⟩ := hv
  have hx := B.exec
  have hb := B.bytes
  have hr := B.returns
  have hts := atoms_spec (ws := wsX1_fail) B.pre
  have htG := fun (w : Cond) (h : w ∈ wG) => hts w (List.mem_cons_of_mem _ h)
  have hown : s.vm.findClass RX1 = some m.cls := findClass_of_methodNamed B.named
  have hlocks := B.notSynchronized
  subst hsz
  have hD := hD0.self (sz := s.heap.size)
  generalize hAe : va_A (mW mh0 mh1 mh2 mh3 mc1 mc2 mc3 mk1 mk2 mk3 mf0 mf1 mf2 mf3 mf4 mf5 mf6 mf7 mf8 mf9) s.heap.size = A at hD ⊢
  have hA : ∀ q : Nat, s.heap.size ≤ q → A q := fun q h => by rw [← hAe]; exact Or.inr h
  have hS : va_S A s.heap s.heap [] := va_S.rf
  have hP : va_P (dC, dI) vwCl (mW mh0 mh1 mh2 mh3 mc1 mc2 mc3 mk1 mk2 mk3 mf0 mf1 mf2 mf3 mf4 mf5 mf6 mf7 mf8 mf9) s.heap := hP
  have hl := lv_entry ([.ref mh0, .int p0]) (n := 2) (Nat.le_of_ble_eq_true rfl)
  rw [lg_entry_eq]
  generalize (lg_sl ([.ref mh0, .int p0]) ++ List.replicate (2 - (lg_sl ([.ref mh0, .int p0])).length) Slot.unset).toArray = ls at hl ⊢
  have hl : lv_has ls 2 [(0, .ref mh0), (1, .int p0)] := hl
  refine lv_aload_n hx hb dX1_fail_0 rfl (lv_at hl 0 rfl) ?_
  refine lv_iload_n hx hb dX1_fail_1 rfl (lv_at hl 1 rfl) ?_
  refine va_put (D := (dC, dI)) (ci := 1) (v := .int p0) (ty := .int) (C := RX1) (T := TX1) (N := 13) hx hb htG inX1 tyX1 tyX1_ok nmX1 hown hK hP hD hS 0 rfl rfl 0 (by decide) (htG _ wd_331) (fun _ h9 => h9) rfl (by decide +kernel) rfl rfl (Nat.le_of_ble_eq_true rfl) dX1_fail_2 (fun H locs hP hD hS => ?_)
  have hP : va_P (dC, dI) vwCl (mW mh0 mh1 mh2 mh3 mc1 mc2 mc3 mk1 mk2 mk3 p0 mf1 mf2 mf3 mf4 mf5 mf6 mf7 mf8 mf9) H := hP
  have hD : va_D A (mW mh0 mh1 mh2 mh3 mc1 mc2 mc3 mk1 mk2 mk3 p0 mf1 mf2 mf3 mf4 mf5 mf6 mf7 mf8 mf9) := hD
  refine lv_iconst (v := 0) hx hb dX1_fail_5 (by decide) ?_
  exact W.iret (v := 0) hx hb hr (fun t ht hW => ⟨⟨0, (mk1, mk2, mk3, p0, mf1, mf2, mf3, mf4, mf5, mf6, mf7, mf8, mf9), rfl, (by rw [fX1_fail]), by rw [ht]; exact hP, va_K.moved hW.alike hK, hD⟩, hS.F ht⟩) hS.2.2 dX1_fail_6
