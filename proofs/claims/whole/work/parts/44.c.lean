def b1 (x : Nat) : Nat := x - (x / 2 &&& 1431655765)
def b2 (x : Nat) : Nat := (x &&& 858993459) + (x / 4 &&& 858993459)
def b3 (x : Nat) : Nat := (x + x / 16) &&& 252645135
def b4 (x : Nat) : Nat := x + x / 256
def b5 (x : Nat) : Nat := x + x / 65536
def bcN (x : Nat) : Nat := b5 (b4 (b3 (b2 (b1 x)))) &&& 63
theorem e_b1 {x : Nat} (hx : x < 4294967296) : nI x - (((nI x).toUInt32 >>> ((1 : Int32).toUInt32 &&& Int32.toUInt32 31)).toInt32 &&& 1431655765) = nI (b1 x) := by
  have h1 : x / 2 &&& 1431655765 ≤ x / 2 := Nat.and_le_left
  rw [pk_ushrN hx 1 1 (by decide), nI_and (b := 1431655765) (by omega) (by decide) (by decide)]
  exact pk_sub (show x / 2 &&& 1431655765 ≤ x by omega)
theorem e_b2 {x : Nat} (hx : x < 4294967296) : (nI x &&& 858993459) + (((nI x).toUInt32 >>> ((2 : Int32).toUInt32 &&& Int32.toUInt32 31)).toInt32 &&& 858993459) = nI (b2 x) := by
  rw [pk_ushrN hx 2 2 (by decide), nI_and (b := 858993459) (a := x) (by omega) (by decide) (by decide), nI_and (b := 858993459) (by omega) (by decide) (by decide), nI_add]
  rfl
theorem e_b3 {x : Nat} (hx : x < 4026531840) : (nI x + ((nI x).toUInt32 >>> ((4 : Int32).toUInt32 &&& Int32.toUInt32 31)).toInt32) &&& 252645135 = nI (b3 x) := by
  rw [pk_ushrN (by omega) 4 4 (by decide), nI_add, nI_and (b := 252645135) (by omega) (by decide) (by decide)]
  rfl
theorem e_b4 {x : Nat} (hx : x < 4294967296) : nI x + ((nI x).toUInt32 >>> ((8 : Int32).toUInt32 &&& Int32.toUInt32 31)).toInt32 = nI (b4 x) := by
  rw [pk_ushrN hx 8 8 (by decide), nI_add]
  rfl
theorem e_b5 {x : Nat} (hx : x < 4294967296) : nI x + ((nI x).toUInt32 >>> ((16 : Int32).toUInt32 &&& Int32.toUInt32 31)).toInt32 = nI (b5 x) := by
  rw [pk_ushrN hx 16 16 (by decide), nI_add]
  rfl
theorem bc_nat {x : Nat} (hx : x < 4294967296) : fJ0_bitCount (nI x) = nI (bcN x) := by
  have l1 : b1 x < 4294967296 := Nat.lt_of_le_of_lt (Nat.sub_le _ _) hx
  have l2 : b2 (b1 x) ≤ 1717986918 := Nat.add_le_add (Nat.and_le_right (n := b1 x) (m := 858993459)) (Nat.and_le_right (n := b1 x / 4) (m := 858993459))
  have l3 : b3 (b2 (b1 x)) ≤ 252645135 := Nat.and_le_right
  have l4 : b4 (b3 (b2 (b1 x))) ≤ 252645135 + 252645135 := Nat.add_le_add l3 (Nat.le_trans (Nat.div_le_self _ _) l3)
  have l5 : b5 (b4 (b3 (b2 (b1 x)))) ≤ (252645135 + 252645135) + (252645135 + 252645135) := Nat.add_le_add l4 (Nat.le_trans (Nat.div_le_self _ _) l4)
  rw [fJ0_bitCount, e_b1 hx, e_b2 l1, e_b3 (by omega), e_b4 (by omega), e_b5 (by omega), nI_and (b := 63) (by omega) (by decide) (by decide), bcN]
def cntN (x : Nat) : Nat → Nat
  | 0 => 0
  | k + 1 => cntN x k + (if x.testBit k then 1 else 0)
theorem svM_cnt {x : Nat} (hx : x < 4294967296) (p2 : Int32) : ∀ k, k ≤ 32 → svM (nI x) p2 k = nI (cntN x k) * p2
  | 0, _ => by
    rw [svM, cntN, nI_0, Int32.zero_mul]
  | k + 1, h => by
    rw [svM, svM_cnt hx p2 k (by omega), bitv _ (by omega : k < 32), bt_nI hx, cntN, ← nI_add, Int32.add_mul]
    cases x.testBit k <;> rfl
theorem enumG : (List.range 4).all (fun c => (List.range 256).all (fun b => decide (bcN (c * 1073741824 + b * 65536) = cntN (c * 1073741824 + b * 65536) 32))) = true := by decide +kernel
theorem enumF : (List.range 2).all (fun e0 => (List.range 2).all (fun e1 => (List.range 2).all (fun e2 => (List.range 2).all (fun e3 => (List.range 2).all (fun e4 => (List.range 2).all (fun e5 => decide (bcN ((e0 + e1 * 4 + e2 * 16 + e3 * 64 + e4 * 256 + e5 * 1024) * 1048576) = cntN ((e0 + e1 * 4 + e2 * 16 + e3 * 64 + e4 * 256 + e5 * 1024) * 1048576) 32))))))) = true := by decide +kernel
