/-- the sum of the bits of p0 below k, each p2 -/
def svM (p0 p2 : Int32) : Nat → Int32
  | 0 => 0
  | k + 1 => svM p0 p2 k + (((p0 >>> (nI k &&& 31)) &&& 1) * p2)
def fX1_saved (p0 p1 p2 : Int32) : Int32 := svM p0 p2 p1.toNatClampNeg
abbrev wsX1_saved : List Cond := .code yX1_saved cX1_saved 5 (some .int) :: wG
set_option maxHeartbeats 4000000 in
set_option maxRecDepth 100000 in
theorem mX1_saved (l : Launch) (p0 p1 p2 : Int32)  : Met l yX1_saved wsX1_saved ({ frames := 0, cells := 0, slots := 0, locals := 0 }) (va_Pc [.int p0, .int p1, .int p2] (fun _ => True)) (vp_Si (fun r => r = fX1_saved p0 p1 p2)) 0 0 (fun _ => False) := by
  refine Met.ofW (cc := cX1_saved) (maxL := 5) (ret := (some .int)) (by decide) rfl ?_
  intro p e s m args below meth c s₁ B hml hv
  obtain ⟨rfl, -⟩ := hv
  have hx := B.exec
  have hb := B.bytes
  have hr := B.returns
  have hts := atoms_spec (ws := wsX1_saved) B.pre
  have htG := fun (w : Cond) (h : w ∈ wG) => hts w (List.mem_cons_of_mem _ h)
  have hown : s.vm.findClass RX1 = some m.cls := findClass_of_methodNamed B.named
  have hlocks := B.notSynchronized
  have loop : ∀ (n i : Nat) (x3 x4 : Int32), x4 = nI i → i ≤ p1.toNatClampNeg → p1.toNatClampNeg + 1 ≤ i + n → x3 = svM p0 p2 i → ∀ (ls : Array Slot), lv_has ls 5 [(0, .int p0), (1, .int p1), (2, .int p2), (3, .int x3), (4, .int x4)] → W p l e (headSpec wsX1_saved ({ frames := 0, cells := 0, slots := 0, locals := 0 })).room s m ([.int p0, .int p1, .int p2] : List Value).toArray below meth c s.heap [] 0 0 (MQ below (vp_Si (fun r => r = fX1_saved p0 p1 p2)) ([.int p0, .int p1, .int p2] : List Value).toArray s 0 0 (fun _ => False)) (F0 m 5 ls []) := by
    intro n
    induction n with
    | zero =>
      intro i x3 x4 e1 hi hn
      exact absurd hn (by omega)
    | succ n ih =>
      intro i x3 x4 e1 hi hn e2 ls hl
      refine lv_iload hx hb dX1_saved_5 (lv_at hl 4 rfl) ?_
      refine lv_iload_n hx hb dX1_saved_7 rfl (lv_at hl 1 rfl) ?_
      refine lv_icmp_ge (tgt := 28) hx hb dX1_saved_8 (by decide) (fun c_1 => ?_) (fun c_1 => ?_)
      · refine lv_iload_n hx hb dX1_saved_28 rfl (lv_at hl 3 rfl) ?_
        exact W.iret (v := x3) hx hb hr (fun t ht hW => ⟨x3, rfl, (by rw [e2, fX1_saved, ← le_clamp hi (by rw [← e1]; exact c_1)]), ht⟩) (fun q h => nomatch h) dX1_saved_29
      · refine lv_iload_n hx hb dX1_saved_11 rfl (lv_at hl 3 rfl) ?_
        refine lv_iload_n hx hb dX1_saved_12 rfl (lv_at hl 0 rfl) ?_
        refine lv_iload hx hb dX1_saved_13 (lv_at hl 4 rfl) ?_
        refine lv_ishr hx hb dX1_saved_15 ?_
        refine lv_iconst (v := 1) hx hb dX1_saved_16 (by decide) ?_
        refine lv_iand hx hb dX1_saved_17 ?_
        refine lv_iload_n hx hb dX1_saved_18 rfl (lv_at hl 2 rfl) ?_
        refine lv_imul hx hb dX1_saved_19 ?_
        refine lv_iadd hx hb dX1_saved_20 ?_
        refine lv_istore_n (lv' := [(3, .int (x3 + (((p0 >>> (x4 &&& 31)) &&& 1) * p2))), (0, .int p0), (1, .int p1), (2, .int p2), (4, .int x4)]) hx hb dX1_saved_21 rfl hl (by decide) rfl (fun ls hl => ?_)
        refine lv_iinc (v := (x4 + 1)) (lv' := [(4, .int (x4 + 1)), (3, .int (x3 + (((p0 >>> (x4 &&& 31)) &&& 1) * p2))), (0, .int p0), (1, .int p1), (2, .int p2)]) hx hb dX1_saved_22 hl (k := 4) rfl rfl (by decide) rfl (fun ls hl => ?_)
        refine lv_goto (tgt := 5) hx hb dX1_saved_25 (by decide) ?_
        exact ih (i + 1) _ _ (by rw [e1]; exact nI_1 i) (lt_clamp hi (by rw [← e1]; exact c_1)) (by omega) (by rw [e2, svM, e1]) ls (lv_sub hl [2, 3, 4, 1, 0] rfl)
  have hl := lv_entry ([.int p0, .int p1, .int p2]) (n := 5) (Nat.le_of_ble_eq_true rfl)
  rw [lg_entry_eq]
  generalize (lg_sl ([.int p0, .int p1, .int p2]) ++ List.replicate (5 - (lg_sl ([.int p0, .int p1, .int p2])).length) Slot.unset).toArray = ls at hl ⊢
  have hl : lv_has ls 5 [(0, .int p0), (1, .int p1), (2, .int p2)] := hl
  refine lv_iconst (v := 0) hx hb dX1_saved_0 (by decide) ?_
  refine lv_istore_n (lv' := [(3, .int 0), (0, .int p0), (1, .int p1), (2, .int p2)]) hx hb dX1_saved_1 rfl hl (by decide) rfl (fun ls hl => ?_)
  refine lv_iconst (v := 0) hx hb dX1_saved_2 (by decide) ?_
  refine lv_istore (lv' := [(4, .int 0), (3, .int 0), (0, .int p0), (1, .int p1), (2, .int p2)]) hx hb dX1_saved_3 hl (by decide) rfl (fun ls hl => ?_)
  exact loop (p1.toNatClampNeg + 1) 0 _ _ nI_0.symm (Nat.zero_le _) (by omega) rfl ls (lv_sub hl [2, 3, 4, 1, 0] rfl)
