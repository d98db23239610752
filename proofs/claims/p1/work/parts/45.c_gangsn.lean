theorem wb_tb (n : Nat) : (lN n).toBitVec = BitVec.ofNat 64 n := rfl
theorem wb_inj {a b : Int64} (h : a.toBitVec = b.toBitVec) : a = b := Int64.toBitVec_inj.mp h
theorem wb_tn {n : Nat} (h : n < 2 ^ 64) : (lN n).toBitVec.toNat = n := by rw [wb_tb, BitVec.toNat_ofNat, Nat.mod_eq_of_lt h]
theorem wb_of (x : Int64) : ∃ n, n < 2 ^ 64 ∧ x = lN n := ⟨x.toBitVec.toNat, x.toBitVec.isLt, wb_inj (by rw [wb_tb]; simp)⟩
theorem wb_c : ∀ k, k < 64 → ((nI k).toInt64 &&& 63) = lN k := by decide +kernel
theorem wb_sm : ∀ k, k < 64 → (BitVec.ofNat 64 k).smod 64 = BitVec.ofNat 64 k := by decide +kernel
theorem wb_lt2 {a b : Nat} (h : a < b) : 2 ^ a < 2 ^ b := Nat.pow_lt_pow_right (by decide) h
theorem wb_and {a b : Nat} (ha : a < 2 ^ 64) (hb : b < 2 ^ 64) : lN a &&& lN b = lN (a &&& b) := by
  apply wb_inj
  rw [Int64.toBitVec_and, wb_tb, wb_tb, wb_tb]
  apply BitVec.eq_of_toNat_eq
  rw [BitVec.toNat_and, BitVec.toNat_ofNat, BitVec.toNat_ofNat, BitVec.toNat_ofNat, Nat.mod_eq_of_lt ha, Nat.mod_eq_of_lt hb, Nat.mod_eq_of_lt (Nat.and_lt_two_pow _ hb)]
theorem wb_mask {n k : Nat} (hn : n < 2 ^ 64) (hk : k < 64) : lN n &&& lN (2 ^ k - 1) = lN (n % 2 ^ k) := by
  rw [wb_and hn (by have := wb_lt2 hk; omega), Nat.and_two_pow_sub_one_eq_mod]
theorem wb_a1 {n : Nat} (hn : n < 2 ^ 64) : lN n &&& 1 = lN (n % 2) := wb_mask (k := 1) hn (by decide)
theorem l_shr {n k : Nat} (hn : n < 2 ^ 63) (hk : k < 64) : lN n >>> ((nI k).toInt64 &&& 63) = lN (n / 2 ^ k) := by
  rw [wb_c k hk]
  apply Int64.toInt_inj.mp
  have e : (lN n >>> lN k).toInt = (lN n).toInt >>> k := by
    show ((lN n).toBitVec.sshiftRight ((lN k).toBitVec.smod 64).toNat).toInt = _
    rw [wb_tb k, wb_sm k hk, BitVec.toNat_ofNat, Nat.mod_eq_of_lt (by omega), BitVec.toInt_sshiftRight]
    rfl
  rw [e, pk_lT hn, pk_lT (Nat.lt_of_le_of_lt (Nat.div_le_self _ _) hn), Int.shiftRight_eq_div_pow]
  rfl
theorem l_bit {n k : Nat} (hn : n < 2 ^ 63) (hk : k < 64) : (lN n >>> ((nI k).toInt64 &&& 63)) &&& 1 = lN (n / 2 ^ k % 2) := by
  rw [l_shr hn hk, wb_a1 (Nat.lt_of_le_of_lt (Nat.div_le_self _ _) (by omega))]
theorem lg0 (x y : Int64) : lg_cmp x y = 0 ↔ x = y := by
  unfold lg_cmp
  by_cases h : x > y
  · rw [if_pos h]
    exact ⟨fun q => absurd q (by decide), fun q => absurd h (by rw [q]; exact fun z => Int64.lt_irrefl z)⟩
  · rw [if_neg h]
    by_cases e : x = y
    · rw [if_pos e]; exact ⟨fun _ => e, fun _ => rfl⟩
    · rw [if_neg e]; exact ⟨fun q => absurd q (by decide), fun q => absurd q e⟩
def bz (a : Int64) (j : Nat) : Prop := (lg_cmp ((a >>> ((nI j).toInt64 &&& 63)) &&& 1) 0) = 0
def rng (a : Int64) : Prop := ∃ n, n < 2 ^ 40 ∧ a = lN n
theorem bz_iff {n j : Nat} (hn : n < 2 ^ 40) (hj : j < 64) : bz (lN n) j ↔ n / 2 ^ j % 2 = 0 := by
  unfold bz
  rw [l_bit (by omega) hj, lg0]
  exact pk_lEQ (b := 0) (by omega) (by omega)
theorem all0 {n : Nat} (hn : n < 2 ^ 40) (h : ∀ j, j < 40 → n / 2 ^ j % 2 = 0) : n = 0 := by
  apply Nat.eq_of_testBit_eq
  intro j
  rw [Nat.zero_testBit]
  by_cases hj : j < 40
  · rw [Nat.testBit_eq_decide_div_mod_eq, h j hj]
    rfl
  · exact Nat.testBit_lt_two_pow (Nat.lt_of_lt_of_le hn (Nat.pow_le_pow_right (by decide) (by omega)))
theorem bz_up {a : Int64} {i : Nat} (h : ∀ j, j < i → bz a j) (hc : bz a i) : ∀ j, j < i + 1 → bz a j := fun j hj => by
  rcases Nat.lt_or_ge j i with q | q
  · exact h j q
  · rw [show j = i by omega]
    exact hc
theorem rng_c {a : Int64} (h1 : ¬ (lg_cmp a 0) < 0) (h2 : (lg_cmp (a >>> ((40 : Int32).toInt64 &&& 63)) 0) = 0) : rng a := by
  rw [lt64] at h1
  obtain ⟨n, hn, rfl⟩ := pk_lOf h1
  rw [lg0] at h2
  have e := l_shr (k := 40) hn (by decide)
  have e2 : lN (n / 2 ^ 40) = lN 0 := e.symm.trans h2
  rw [pk_lEQ (Nat.lt_of_le_of_lt (Nat.div_le_self _ _) hn) (by decide)] at e2
  exact ⟨n, by omega, rfl⟩
theorem rng_m {a : Int64} (h : ¬ sp_X12_in a 0 1099511627775 = 0) : rng a := by
  have h := in_iff h
  obtain ⟨n, hn, rfl⟩ := pk_lOf (Int64.not_lt.mpr h.1)
  have h2 : lN n ≤ lN 1099511627775 := h.2
  rw [pk_lLE hn (by decide)] at h2
  exact ⟨n, by omega, rfl⟩
theorem sh_k {a : Int64} (hr : rng a) (h0 : ¬ a = 0) : ¬ ∀ j, j < 40 → bz a j := by
  obtain ⟨n, hn, rfl⟩ := hr
  intro h
  have : n = 0 := all0 hn (fun j hj => (bz_iff hn (by omega)).mp (h j hj))
  exact h0 (by rw [this]; rfl)
def cnt (n : Nat) : Nat → Nat
  | 0 => 0
  | i + 1 => cnt n i + n / 2 ^ i % 2
theorem cnt_mono (n : Nat) : ∀ d i, cnt n i ≤ cnt n (i + d) := by
  intro d i
  induction d with
  | zero => exact Nat.le_refl _
  | succ d ih => exact Nat.le_trans ih (Nat.le_add_right _ _)
theorem cnt_le (n : Nat) : ∀ i, cnt n i ≤ i := by
  intro i
  induction i with
  | zero => exact Nat.le_refl _
  | succ i ih =>
    show cnt n i + n / 2 ^ i % 2 ≤ i + 1
    omega
theorem is_c {n i : Nat} (hn : n < 2 ^ 40) (hi : i < 64) : (sp_X12_is (lN n) (nI i) = 0) ↔ n / 2 ^ i % 2 = 0 := by
  unfold sp_X12_is
  rw [l_bit (by omega) hi]
  by_cases h : n / 2 ^ i % 2 = 0
  · rw [h]
    exact ⟨fun _ => rfl, fun _ => by decide⟩
  · have e : n / 2 ^ i % 2 = 1 := by omega
    rw [e]
    exact ⟨fun q => absurd q (by decide), fun q => absurd q (by decide)⟩
theorem on_c {n : Nat} (hn : n < 2 ^ 40) : ∀ i, i ≤ 40 → onc (lN n) i = nI (cnt n i) := by
  intro i
  induction i with
  | zero => intro _; rfl
  | succ i ih =>
    intro hi
    show onc (lN n) i + (if sp_X12_is (lN n) (nI i) = 0 then 0 else 1) = nI (cnt n i + n / 2 ^ i % 2)
    rw [ih (by omega)]
    by_cases h : n / 2 ^ i % 2 = 0
    · rw [if_pos ((is_c hn (by omega)).mpr h), h]
      exact nI_add _ 0
    · rw [if_neg (fun q => h ((is_c hn (by omega)).mp q)), show n / 2 ^ i % 2 = 1 by omega]
      exact nI_add _ 1
theorem on_in {a : Int64} {i : Nat} (hr : rng a) (h6 : ¬ 6 < onc a 40) (hb : ¬ sp_X12_is a (nI i) = 0) (hi : i < 40) : vp_in (onc a i) 6 := by
  obtain ⟨n, hn, rfl⟩ := hr
  rw [on_c hn 40 (by omega)] at h6
  have c40 := cnt_le n 40
  have h6' : ¬ nI 6 < nI (cnt n 40) := h6
  rw [nI_ltI (by decide) (by omega)] at h6'
  rw [is_c hn (by omega)] at hb
  rw [on_c hn i (by omega)]
  refine vp_in_nI ?_ (by decide)
  have m := cnt_mono n (40 - (i + 1)) (i + 1)
  rw [show i + 1 + (40 - (i + 1)) = 40 by omega] at m
  have e : cnt n (i + 1) = cnt n i + n / 2 ^ i % 2 := rfl
  omega
theorem cnt_0 {n : Nat} (h : cnt n 40 = 0) : ∀ j, j < 40 → n / 2 ^ j % 2 = 0 := by
  intro j hj
  have m := cnt_mono n (40 - (j + 1)) (j + 1)
  rw [show j + 1 + (40 - (j + 1)) = 40 by omega] at m
  have e : cnt n (j + 1) = cnt n j + n / 2 ^ j % 2 := rfl
  omega
theorem on_n0 {a : Int64} (hr : rng a) (h0 : ¬ a = 0) : ¬ 0 = onc a 40 := by
  obtain ⟨n, hn, rfl⟩ := hr
  intro h
  rw [on_c hn 40 (by omega)] at h
  have h' : nI 0 = nI (cnt n 40) := h
  have c40 := cnt_le n 40
  rw [nI_eq (by decide) (by omega)] at h'
  exact h0 (by rw [all0 hn (cnt_0 h'.symm)]; rfl)
theorem on_00 {a : Int64} {i : Nat} (h : sp_X12_is a (nI i) = 0) : onc a (i + 1) = onc a i := by
  rw [on_0 h]
  exact Int32.add_zero _

def sp_J_lbc (a : Int64) : Int32 := (((((((((a - ((a.toUInt64 >>> ((1 : Int32).toInt64.toUInt64 &&& Int64.toUInt64 63)).toInt64 &&& 6148914691236517205)) &&& 3689348814741910323) + (((a - ((a.toUInt64 >>> ((1 : Int32).toInt64.toUInt64 &&& Int64.toUInt64 63)).toInt64 &&& 6148914691236517205)).toUInt64 >>> ((2 : Int32).toInt64.toUInt64 &&& Int64.toUInt64 63)).toInt64 &&& 3689348814741910323)) + ((((a - ((a.toUInt64 >>> ((1 : Int32).toInt64.toUInt64 &&& Int64.toUInt64 63)).toInt64 &&& 6148914691236517205)) &&& 3689348814741910323) + (((a - ((a.toUInt64 >>> ((1 : Int32).toInt64.toUInt64 &&& Int64.toUInt64 63)).toInt64 &&& 6148914691236517205)).toUInt64 >>> ((2 : Int32).toInt64.toUInt64 &&& Int64.toUInt64 63)).toInt64 &&& 3689348814741910323)).toUInt64 >>> ((4 : Int32).toInt64.toUInt64 &&& Int64.toUInt64 63)).toInt64) &&& 1085102592571150095) + ((((((a - ((a.toUInt64 >>> ((1 : Int32).toInt64.toUInt64 &&& Int64.toUInt64 63)).toInt64 &&& 6148914691236517205)) &&& 3689348814741910323) + (((a - ((a.toUInt64 >>> ((1 : Int32).toInt64.toUInt64 &&& Int64.toUInt64 63)).toInt64 &&& 6148914691236517205)).toUInt64 >>> ((2 : Int32).toInt64.toUInt64 &&& Int64.toUInt64 63)).toInt64 &&& 3689348814741910323)) + ((((a - ((a.toUInt64 >>> ((1 : Int32).toInt64.toUInt64 &&& Int64.toUInt64 63)).toInt64 &&& 6148914691236517205)) &&& 3689348814741910323) + (((a - ((a.toUInt64 >>> ((1 : Int32).toInt64.toUInt64 &&& Int64.toUInt64 63)).toInt64 &&& 6148914691236517205)).toUInt64 >>> ((2 : Int32).toInt64.toUInt64 &&& Int64.toUInt64 63)).toInt64 &&& 3689348814741910323)).toUInt64 >>> ((4 : Int32).toInt64.toUInt64 &&& Int64.toUInt64 63)).toInt64) &&& 1085102592571150095).toUInt64 >>> ((8 : Int32).toInt64.toUInt64 &&& Int64.toUInt64 63)).toInt64) + (((((((a - ((a.toUInt64 >>> ((1 : Int32).toInt64.toUInt64 &&& Int64.toUInt64 63)).toInt64 &&& 6148914691236517205)) &&& 3689348814741910323) + (((a - ((a.toUInt64 >>> ((1 : Int32).toInt64.toUInt64 &&& Int64.toUInt64 63)).toInt64 &&& 6148914691236517205)).toUInt64 >>> ((2 : Int32).toInt64.toUInt64 &&& Int64.toUInt64 63)).toInt64 &&& 3689348814741910323)) + ((((a - ((a.toUInt64 >>> ((1 : Int32).toInt64.toUInt64 &&& Int64.toUInt64 63)).toInt64 &&& 6148914691236517205)) &&& 3689348814741910323) + (((a - ((a.toUInt64 >>> ((1 : Int32).toInt64.toUInt64 &&& Int64.toUInt64 63)).toInt64 &&& 6148914691236517205)).toUInt64 >>> ((2 : Int32).toInt64.toUInt64 &&& Int64.toUInt64 63)).toInt64 &&& 3689348814741910323)).toUInt64 >>> ((4 : Int32).toInt64.toUInt64 &&& Int64.toUInt64 63)).toInt64) &&& 1085102592571150095) + ((((((a - ((a.toUInt64 >>> ((1 : Int32).toInt64.toUInt64 &&& Int64.toUInt64 63)).toInt64 &&& 6148914691236517205)) &&& 3689348814741910323) + (((a - ((a.toUInt64 >>> ((1 : Int32).toInt64.toUInt64 &&& Int64.toUInt64 63)).toInt64 &&& 6148914691236517205)).toUInt64 >>> ((2 : Int32).toInt64.toUInt64 &&& Int64.toUInt64 63)).toInt64 &&& 3689348814741910323)) + ((((a - ((a.toUInt64 >>> ((1 : Int32).toInt64.toUInt64 &&& Int64.toUInt64 63)).toInt64 &&& 6148914691236517205)) &&& 3689348814741910323) + (((a - ((a.toUInt64 >>> ((1 : Int32).toInt64.toUInt64 &&& Int64.toUInt64 63)).toInt64 &&& 6148914691236517205)).toUInt64 >>> ((2 : Int32).toInt64.toUInt64 &&& Int64.toUInt64 63)).toInt64 &&& 3689348814741910323)).toUInt64 >>> ((4 : Int32).toInt64.toUInt64 &&& Int64.toUInt64 63)).toInt64) &&& 1085102592571150095).toUInt64 >>> ((8 : Int32).toInt64.toUInt64 &&& Int64.toUInt64 63)).toInt64).toUInt64 >>> ((16 : Int32).toInt64.toUInt64 &&& Int64.toUInt64 63)).toInt64) + ((((((((a - ((a.toUInt64 >>> ((1 : Int32).toInt64.toUInt64 &&& Int64.toUInt64 63)).toInt64 &&& 6148914691236517205)) &&& 3689348814741910323) + (((a - ((a.toUInt64 >>> ((1 : Int32).toInt64.toUInt64 &&& Int64.toUInt64 63)).toInt64 &&& 6148914691236517205)).toUInt64 >>> ((2 : Int32).toInt64.toUInt64 &&& Int64.toUInt64 63)).toInt64 &&& 3689348814741910323)) + ((((a - ((a.toUInt64 >>> ((1 : Int32).toInt64.toUInt64 &&& Int64.toUInt64 63)).toInt64 &&& 6148914691236517205)) &&& 3689348814741910323) + (((a - ((a.toUInt64 >>> ((1 : Int32).toInt64.toUInt64 &&& Int64.toUInt64 63)).toInt64 &&& 6148914691236517205)).toUInt64 >>> ((2 : Int32).toInt64.toUInt64 &&& Int64.toUInt64 63)).toInt64 &&& 3689348814741910323)).toUInt64 >>> ((4 : Int32).toInt64.toUInt64 &&& Int64.toUInt64 63)).toInt64) &&& 1085102592571150095) + ((((((a - ((a.toUInt64 >>> ((1 : Int32).toInt64.toUInt64 &&& Int64.toUInt64 63)).toInt64 &&& 6148914691236517205)) &&& 3689348814741910323) + (((a - ((a.toUInt64 >>> ((1 : Int32).toInt64.toUInt64 &&& Int64.toUInt64 63)).toInt64 &&& 6148914691236517205)).toUInt64 >>> ((2 : Int32).toInt64.toUInt64 &&& Int64.toUInt64 63)).toInt64 &&& 3689348814741910323)) + ((((a - ((a.toUInt64 >>> ((1 : Int32).toInt64.toUInt64 &&& Int64.toUInt64 63)).toInt64 &&& 6148914691236517205)) &&& 3689348814741910323) + (((a - ((a.toUInt64 >>> ((1 : Int32).toInt64.toUInt64 &&& Int64.toUInt64 63)).toInt64 &&& 6148914691236517205)).toUInt64 >>> ((2 : Int32).toInt64.toUInt64 &&& Int64.toUInt64 63)).toInt64 &&& 3689348814741910323)).toUInt64 >>> ((4 : Int32).toInt64.toUInt64 &&& Int64.toUInt64 63)).toInt64) &&& 1085102592571150095).toUInt64 >>> ((8 : Int32).toInt64.toUInt64 &&& Int64.toUInt64 63)).toInt64) + (((((((a - ((a.toUInt64 >>> ((1 : Int32).toInt64.toUInt64 &&& Int64.toUInt64 63)).toInt64 &&& 6148914691236517205)) &&& 3689348814741910323) + (((a - ((a.toUInt64 >>> ((1 : Int32).toInt64.toUInt64 &&& Int64.toUInt64 63)).toInt64 &&& 6148914691236517205)).toUInt64 >>> ((2 : Int32).toInt64.toUInt64 &&& Int64.toUInt64 63)).toInt64 &&& 3689348814741910323)) + ((((a - ((a.toUInt64 >>> ((1 : Int32).toInt64.toUInt64 &&& Int64.toUInt64 63)).toInt64 &&& 6148914691236517205)) &&& 3689348814741910323) + (((a - ((a.toUInt64 >>> ((1 : Int32).toInt64.toUInt64 &&& Int64.toUInt64 63)).toInt64 &&& 6148914691236517205)).toUInt64 >>> ((2 : Int32).toInt64.toUInt64 &&& Int64.toUInt64 63)).toInt64 &&& 3689348814741910323)).toUInt64 >>> ((4 : Int32).toInt64.toUInt64 &&& Int64.toUInt64 63)).toInt64) &&& 1085102592571150095) + ((((((a - ((a.toUInt64 >>> ((1 : Int32).toInt64.toUInt64 &&& Int64.toUInt64 63)).toInt64 &&& 6148914691236517205)) &&& 3689348814741910323) + (((a - ((a.toUInt64 >>> ((1 : Int32).toInt64.toUInt64 &&& Int64.toUInt64 63)).toInt64 &&& 6148914691236517205)).toUInt64 >>> ((2 : Int32).toInt64.toUInt64 &&& Int64.toUInt64 63)).toInt64 &&& 3689348814741910323)) + ((((a - ((a.toUInt64 >>> ((1 : Int32).toInt64.toUInt64 &&& Int64.toUInt64 63)).toInt64 &&& 6148914691236517205)) &&& 3689348814741910323) + (((a - ((a.toUInt64 >>> ((1 : Int32).toInt64.toUInt64 &&& Int64.toUInt64 63)).toInt64 &&& 6148914691236517205)).toUInt64 >>> ((2 : Int32).toInt64.toUInt64 &&& Int64.toUInt64 63)).toInt64 &&& 3689348814741910323)).toUInt64 >>> ((4 : Int32).toInt64.toUInt64 &&& Int64.toUInt64 63)).toInt64) &&& 1085102592571150095).toUInt64 >>> ((8 : Int32).toInt64.toUInt64 &&& Int64.toUInt64 63)).toInt64).toUInt64 >>> ((16 : Int32).toInt64.toUInt64 &&& Int64.toUInt64 63)).toInt64).toUInt64 >>> ((32 : Int32).toInt64.toUInt64 &&& Int64.toUInt64 63)).toInt64).toInt32 &&& 127)
set_option maxHeartbeats 1000000 in
set_option maxRecDepth 100000 in
theorem c_J_lbc (l : Launch) (G : va_G) (cs : Nat → ClassId) (a : Int64) : Met l yJ13_bitCount_95d88 (Cond.code yJ13_bitCount_95d88 cJ13_bitCount_95d88 2 (some .int) :: gW) ({ frames := 0, cells := 0, slots := 0, locals := 0 }) (va_Pc [.long a] (PrS G cs [])) (vp_Si (fun r => r = sp_J_lbc a)) 0 0 (fun _ => False) := by
  refine Met.ofW (cc := cJ13_bitCount_95d88) (maxL := 2) (ret := (some .int)) (by decide) rfl ?_
  intro p e s m args below meth c s₁ B hml hv
  obtain ⟨rfl, hP, hK, hN⟩ := hv
  have hx := B.exec
  have hb := B.bytes
  have hr := B.returns
  have hts := atoms_spec (ws := Cond.code yJ13_bitCount_95d88 cJ13_bitCount_95d88 2 (some .int) :: gW) B.pre
  have htl : ∀ w ∈ gW, w.before _ s = true := fun w h => hts w (List.mem_cons_of_mem _ h)
  have hown : s.vm.findClass RJ13 = some m.cls := findClass_of_methodNamed B.named
  have hlocks := B.notSynchronized
  have hl := lv_entry ([.long a]) (n := 2) (Nat.le_of_ble_eq_true rfl)
  rw [lg_entry_eq]
  generalize (lg_sl ([.long a]) ++ List.replicate (2 - (lg_sl ([.long a])).length) Slot.unset).toArray = ls at hl ⊢
  have hl : lv_has ls 2 [(0, .long a)] := hl
  refine lv_lload_n hx hb dJ13_bitCount_95d88_0 rfl (lv_at hl 0 rfl) ?_
  refine lv_lload_n hx hb dJ13_bitCount_95d88_1 rfl (lv_at hl 0 rfl) ?_
  refine lv_iconst (v := 1) hx hb dJ13_bitCount_95d88_2 (by decide) ?_
  refine lv_lushr (v := (a.toUInt64 >>> ((1 : Int32).toInt64.toUInt64 &&& Int64.toUInt64 63)).toInt64) hx hb dJ13_bitCount_95d88_3 (by first | rfl | decide) ?_
  refine lv_ldc2 hx hb hown (htl _ ct_RJ13_314) dJ13_bitCount_95d88_4 ?_
  refine lv_land hx hb dJ13_bitCount_95d88_7 ?_
  refine lv_lsub hx hb dJ13_bitCount_95d88_8 ?_
  refine lv_lstore_n (lv' := [(0, .long (a - ((a.toUInt64 >>> ((1 : Int32).toInt64.toUInt64 &&& Int64.toUInt64 63)).toInt64 &&& 6148914691236517205)))]) hx hb dJ13_bitCount_95d88_9 rfl hl (by decide) rfl (fun ls hl => ?_)
  refine lv_lload_n hx hb dJ13_bitCount_95d88_10 rfl (lv_at hl 0 rfl) ?_
  refine lv_ldc2 hx hb hown (htl _ ct_RJ13_316) dJ13_bitCount_95d88_11 ?_
  refine lv_land hx hb dJ13_bitCount_95d88_14 ?_
  refine lv_lload_n hx hb dJ13_bitCount_95d88_15 rfl (lv_at hl 0 rfl) ?_
  refine lv_iconst (v := 2) hx hb dJ13_bitCount_95d88_16 (by decide) ?_
  refine lv_lushr (v := ((a - ((a.toUInt64 >>> ((1 : Int32).toInt64.toUInt64 &&& Int64.toUInt64 63)).toInt64 &&& 6148914691236517205)).toUInt64 >>> ((2 : Int32).toInt64.toUInt64 &&& Int64.toUInt64 63)).toInt64) hx hb dJ13_bitCount_95d88_17 (by first | rfl | decide) ?_
  refine lv_ldc2 hx hb hown (htl _ ct_RJ13_316) dJ13_bitCount_95d88_18 ?_
  refine lv_land hx hb dJ13_bitCount_95d88_21 ?_
  refine lv_ladd hx hb dJ13_bitCount_95d88_22 ?_
  refine lv_lstore_n (lv' := [(0, .long (((a - ((a.toUInt64 >>> ((1 : Int32).toInt64.toUInt64 &&& Int64.toUInt64 63)).toInt64 &&& 6148914691236517205)) &&& 3689348814741910323) + (((a - ((a.toUInt64 >>> ((1 : Int32).toInt64.toUInt64 &&& Int64.toUInt64 63)).toInt64 &&& 6148914691236517205)).toUInt64 >>> ((2 : Int32).toInt64.toUInt64 &&& Int64.toUInt64 63)).toInt64 &&& 3689348814741910323)))]) hx hb dJ13_bitCount_95d88_23 rfl hl (by decide) rfl (fun ls hl => ?_)
  refine lv_lload_n hx hb dJ13_bitCount_95d88_24 rfl (lv_at hl 0 rfl) ?_
  refine lv_lload_n hx hb dJ13_bitCount_95d88_25 rfl (lv_at hl 0 rfl) ?_
  refine lv_iconst (v := 4) hx hb dJ13_bitCount_95d88_26 (by decide) ?_
  refine lv_lushr (v := ((((a - ((a.toUInt64 >>> ((1 : Int32).toInt64.toUInt64 &&& Int64.toUInt64 63)).toInt64 &&& 6148914691236517205)) &&& 3689348814741910323) + (((a - ((a.toUInt64 >>> ((1 : Int32).toInt64.toUInt64 &&& Int64.toUInt64 63)).toInt64 &&& 6148914691236517205)).toUInt64 >>> ((2 : Int32).toInt64.toUInt64 &&& Int64.toUInt64 63)).toInt64 &&& 3689348814741910323)).toUInt64 >>> ((4 : Int32).toInt64.toUInt64 &&& Int64.toUInt64 63)).toInt64) hx hb dJ13_bitCount_95d88_27 (by first | rfl | decide) ?_
  refine lv_ladd hx hb dJ13_bitCount_95d88_28 ?_
  refine lv_ldc2 hx hb hown (htl _ ct_RJ13_318) dJ13_bitCount_95d88_29 ?_
  refine lv_land hx hb dJ13_bitCount_95d88_32 ?_
  refine lv_lstore_n (lv' := [(0, .long (((((a - ((a.toUInt64 >>> ((1 : Int32).toInt64.toUInt64 &&& Int64.toUInt64 63)).toInt64 &&& 6148914691236517205)) &&& 3689348814741910323) + (((a - ((a.toUInt64 >>> ((1 : Int32).toInt64.toUInt64 &&& Int64.toUInt64 63)).toInt64 &&& 6148914691236517205)).toUInt64 >>> ((2 : Int32).toInt64.toUInt64 &&& Int64.toUInt64 63)).toInt64 &&& 3689348814741910323)) + ((((a - ((a.toUInt64 >>> ((1 : Int32).toInt64.toUInt64 &&& Int64.toUInt64 63)).toInt64 &&& 6148914691236517205)) &&& 3689348814741910323) + (((a - ((a.toUInt64 >>> ((1 : Int32).toInt64.toUInt64 &&& Int64.toUInt64 63)).toInt64 &&& 6148914691236517205)).toUInt64 >>> ((2 : Int32).toInt64.toUInt64 &&& Int64.toUInt64 63)).toInt64 &&& 3689348814741910323)).toUInt64 >>> ((4 : Int32).toInt64.toUInt64 &&& Int64.toUInt64 63)).toInt64) &&& 1085102592571150095))]) hx hb dJ13_bitCount_95d88_33 rfl hl (by decide) rfl (fun ls hl => ?_)
  refine lv_lload_n hx hb dJ13_bitCount_95d88_34 rfl (lv_at hl 0 rfl) ?_
  refine lv_lload_n hx hb dJ13_bitCount_95d88_35 rfl (lv_at hl 0 rfl) ?_
  refine lv_bipush (v := 8) hx hb dJ13_bitCount_95d88_36 (by decide) ?_
  refine lv_lushr (v := ((((((a - ((a.toUInt64 >>> ((1 : Int32).toInt64.toUInt64 &&& Int64.toUInt64 63)).toInt64 &&& 6148914691236517205)) &&& 3689348814741910323) + (((a - ((a.toUInt64 >>> ((1 : Int32).toInt64.toUInt64 &&& Int64.toUInt64 63)).toInt64 &&& 6148914691236517205)).toUInt64 >>> ((2 : Int32).toInt64.toUInt64 &&& Int64.toUInt64 63)).toInt64 &&& 3689348814741910323)) + ((((a - ((a.toUInt64 >>> ((1 : Int32).toInt64.toUInt64 &&& Int64.toUInt64 63)).toInt64 &&& 6148914691236517205)) &&& 3689348814741910323) + (((a - ((a.toUInt64 >>> ((1 : Int32).toInt64.toUInt64 &&& Int64.toUInt64 63)).toInt64 &&& 6148914691236517205)).toUInt64 >>> ((2 : Int32).toInt64.toUInt64 &&& Int64.toUInt64 63)).toInt64 &&& 3689348814741910323)).toUInt64 >>> ((4 : Int32).toInt64.toUInt64 &&& Int64.toUInt64 63)).toInt64) &&& 1085102592571150095).toUInt64 >>> ((8 : Int32).toInt64.toUInt64 &&& Int64.toUInt64 63)).toInt64) hx hb dJ13_bitCount_95d88_38 (by first | rfl | decide) ?_
  refine lv_ladd hx hb dJ13_bitCount_95d88_39 ?_
  refine lv_lstore_n (lv' := [(0, .long ((((((a - ((a.toUInt64 >>> ((1 : Int32).toInt64.toUInt64 &&& Int64.toUInt64 63)).toInt64 &&& 6148914691236517205)) &&& 3689348814741910323) + (((a - ((a.toUInt64 >>> ((1 : Int32).toInt64.toUInt64 &&& Int64.toUInt64 63)).toInt64 &&& 6148914691236517205)).toUInt64 >>> ((2 : Int32).toInt64.toUInt64 &&& Int64.toUInt64 63)).toInt64 &&& 3689348814741910323)) + ((((a - ((a.toUInt64 >>> ((1 : Int32).toInt64.toUInt64 &&& Int64.toUInt64 63)).toInt64 &&& 6148914691236517205)) &&& 3689348814741910323) + (((a - ((a.toUInt64 >>> ((1 : Int32).toInt64.toUInt64 &&& Int64.toUInt64 63)).toInt64 &&& 6148914691236517205)).toUInt64 >>> ((2 : Int32).toInt64.toUInt64 &&& Int64.toUInt64 63)).toInt64 &&& 3689348814741910323)).toUInt64 >>> ((4 : Int32).toInt64.toUInt64 &&& Int64.toUInt64 63)).toInt64) &&& 1085102592571150095) + ((((((a - ((a.toUInt64 >>> ((1 : Int32).toInt64.toUInt64 &&& Int64.toUInt64 63)).toInt64 &&& 6148914691236517205)) &&& 3689348814741910323) + (((a - ((a.toUInt64 >>> ((1 : Int32).toInt64.toUInt64 &&& Int64.toUInt64 63)).toInt64 &&& 6148914691236517205)).toUInt64 >>> ((2 : Int32).toInt64.toUInt64 &&& Int64.toUInt64 63)).toInt64 &&& 3689348814741910323)) + ((((a - ((a.toUInt64 >>> ((1 : Int32).toInt64.toUInt64 &&& Int64.toUInt64 63)).toInt64 &&& 6148914691236517205)) &&& 3689348814741910323) + (((a - ((a.toUInt64 >>> ((1 : Int32).toInt64.toUInt64 &&& Int64.toUInt64 63)).toInt64 &&& 6148914691236517205)).toUInt64 >>> ((2 : Int32).toInt64.toUInt64 &&& Int64.toUInt64 63)).toInt64 &&& 3689348814741910323)).toUInt64 >>> ((4 : Int32).toInt64.toUInt64 &&& Int64.toUInt64 63)).toInt64) &&& 1085102592571150095).toUInt64 >>> ((8 : Int32).toInt64.toUInt64 &&& Int64.toUInt64 63)).toInt64))]) hx hb dJ13_bitCount_95d88_40 rfl hl (by decide) rfl (fun ls hl => ?_)
  refine lv_lload_n hx hb dJ13_bitCount_95d88_41 rfl (lv_at hl 0 rfl) ?_
  refine lv_lload_n hx hb dJ13_bitCount_95d88_42 rfl (lv_at hl 0 rfl) ?_
  refine lv_bipush (v := 16) hx hb dJ13_bitCount_95d88_43 (by decide) ?_
  refine lv_lushr (v := (((((((a - ((a.toUInt64 >>> ((1 : Int32).toInt64.toUInt64 &&& Int64.toUInt64 63)).toInt64 &&& 6148914691236517205)) &&& 3689348814741910323) + (((a - ((a.toUInt64 >>> ((1 : Int32).toInt64.toUInt64 &&& Int64.toUInt64 63)).toInt64 &&& 6148914691236517205)).toUInt64 >>> ((2 : Int32).toInt64.toUInt64 &&& Int64.toUInt64 63)).toInt64 &&& 3689348814741910323)) + ((((a - ((a.toUInt64 >>> ((1 : Int32).toInt64.toUInt64 &&& Int64.toUInt64 63)).toInt64 &&& 6148914691236517205)) &&& 3689348814741910323) + (((a - ((a.toUInt64 >>> ((1 : Int32).toInt64.toUInt64 &&& Int64.toUInt64 63)).toInt64 &&& 6148914691236517205)).toUInt64 >>> ((2 : Int32).toInt64.toUInt64 &&& Int64.toUInt64 63)).toInt64 &&& 3689348814741910323)).toUInt64 >>> ((4 : Int32).toInt64.toUInt64 &&& Int64.toUInt64 63)).toInt64) &&& 1085102592571150095) + ((((((a - ((a.toUInt64 >>> ((1 : Int32).toInt64.toUInt64 &&& Int64.toUInt64 63)).toInt64 &&& 6148914691236517205)) &&& 3689348814741910323) + (((a - ((a.toUInt64 >>> ((1 : Int32).toInt64.toUInt64 &&& Int64.toUInt64 63)).toInt64 &&& 6148914691236517205)).toUInt64 >>> ((2 : Int32).toInt64.toUInt64 &&& Int64.toUInt64 63)).toInt64 &&& 3689348814741910323)) + ((((a - ((a.toUInt64 >>> ((1 : Int32).toInt64.toUInt64 &&& Int64.toUInt64 63)).toInt64 &&& 6148914691236517205)) &&& 3689348814741910323) + (((a - ((a.toUInt64 >>> ((1 : Int32).toInt64.toUInt64 &&& Int64.toUInt64 63)).toInt64 &&& 6148914691236517205)).toUInt64 >>> ((2 : Int32).toInt64.toUInt64 &&& Int64.toUInt64 63)).toInt64 &&& 3689348814741910323)).toUInt64 >>> ((4 : Int32).toInt64.toUInt64 &&& Int64.toUInt64 63)).toInt64) &&& 1085102592571150095).toUInt64 >>> ((8 : Int32).toInt64.toUInt64 &&& Int64.toUInt64 63)).toInt64).toUInt64 >>> ((16 : Int32).toInt64.toUInt64 &&& Int64.toUInt64 63)).toInt64) hx hb dJ13_bitCount_95d88_45 (by first | rfl | decide) ?_
  refine lv_ladd hx hb dJ13_bitCount_95d88_46 ?_
  refine lv_lstore_n (lv' := [(0, .long (((((((a - ((a.toUInt64 >>> ((1 : Int32).toInt64.toUInt64 &&& Int64.toUInt64 63)).toInt64 &&& 6148914691236517205)) &&& 3689348814741910323) + (((a - ((a.toUInt64 >>> ((1 : Int32).toInt64.toUInt64 &&& Int64.toUInt64 63)).toInt64 &&& 6148914691236517205)).toUInt64 >>> ((2 : Int32).toInt64.toUInt64 &&& Int64.toUInt64 63)).toInt64 &&& 3689348814741910323)) + ((((a - ((a.toUInt64 >>> ((1 : Int32).toInt64.toUInt64 &&& Int64.toUInt64 63)).toInt64 &&& 6148914691236517205)) &&& 3689348814741910323) + (((a - ((a.toUInt64 >>> ((1 : Int32).toInt64.toUInt64 &&& Int64.toUInt64 63)).toInt64 &&& 6148914691236517205)).toUInt64 >>> ((2 : Int32).toInt64.toUInt64 &&& Int64.toUInt64 63)).toInt64 &&& 3689348814741910323)).toUInt64 >>> ((4 : Int32).toInt64.toUInt64 &&& Int64.toUInt64 63)).toInt64) &&& 1085102592571150095) + ((((((a - ((a.toUInt64 >>> ((1 : Int32).toInt64.toUInt64 &&& Int64.toUInt64 63)).toInt64 &&& 6148914691236517205)) &&& 3689348814741910323) + (((a - ((a.toUInt64 >>> ((1 : Int32).toInt64.toUInt64 &&& Int64.toUInt64 63)).toInt64 &&& 6148914691236517205)).toUInt64 >>> ((2 : Int32).toInt64.toUInt64 &&& Int64.toUInt64 63)).toInt64 &&& 3689348814741910323)) + ((((a - ((a.toUInt64 >>> ((1 : Int32).toInt64.toUInt64 &&& Int64.toUInt64 63)).toInt64 &&& 6148914691236517205)) &&& 3689348814741910323) + (((a - ((a.toUInt64 >>> ((1 : Int32).toInt64.toUInt64 &&& Int64.toUInt64 63)).toInt64 &&& 6148914691236517205)).toUInt64 >>> ((2 : Int32).toInt64.toUInt64 &&& Int64.toUInt64 63)).toInt64 &&& 3689348814741910323)).toUInt64 >>> ((4 : Int32).toInt64.toUInt64 &&& Int64.toUInt64 63)).toInt64) &&& 1085102592571150095).toUInt64 >>> ((8 : Int32).toInt64.toUInt64 &&& Int64.toUInt64 63)).toInt64) + (((((((a - ((a.toUInt64 >>> ((1 : Int32).toInt64.toUInt64 &&& Int64.toUInt64 63)).toInt64 &&& 6148914691236517205)) &&& 3689348814741910323) + (((a - ((a.toUInt64 >>> ((1 : Int32).toInt64.toUInt64 &&& Int64.toUInt64 63)).toInt64 &&& 6148914691236517205)).toUInt64 >>> ((2 : Int32).toInt64.toUInt64 &&& Int64.toUInt64 63)).toInt64 &&& 3689348814741910323)) + ((((a - ((a.toUInt64 >>> ((1 : Int32).toInt64.toUInt64 &&& Int64.toUInt64 63)).toInt64 &&& 6148914691236517205)) &&& 3689348814741910323) + (((a - ((a.toUInt64 >>> ((1 : Int32).toInt64.toUInt64 &&& Int64.toUInt64 63)).toInt64 &&& 6148914691236517205)).toUInt64 >>> ((2 : Int32).toInt64.toUInt64 &&& Int64.toUInt64 63)).toInt64 &&& 3689348814741910323)).toUInt64 >>> ((4 : Int32).toInt64.toUInt64 &&& Int64.toUInt64 63)).toInt64) &&& 1085102592571150095) + ((((((a - ((a.toUInt64 >>> ((1 : Int32).toInt64.toUInt64 &&& Int64.toUInt64 63)).toInt64 &&& 6148914691236517205)) &&& 3689348814741910323) + (((a - ((a.toUInt64 >>> ((1 : Int32).toInt64.toUInt64 &&& Int64.toUInt64 63)).toInt64 &&& 6148914691236517205)).toUInt64 >>> ((2 : Int32).toInt64.toUInt64 &&& Int64.toUInt64 63)).toInt64 &&& 3689348814741910323)) + ((((a - ((a.toUInt64 >>> ((1 : Int32).toInt64.toUInt64 &&& Int64.toUInt64 63)).toInt64 &&& 6148914691236517205)) &&& 3689348814741910323) + (((a - ((a.toUInt64 >>> ((1 : Int32).toInt64.toUInt64 &&& Int64.toUInt64 63)).toInt64 &&& 6148914691236517205)).toUInt64 >>> ((2 : Int32).toInt64.toUInt64 &&& Int64.toUInt64 63)).toInt64 &&& 3689348814741910323)).toUInt64 >>> ((4 : Int32).toInt64.toUInt64 &&& Int64.toUInt64 63)).toInt64) &&& 1085102592571150095).toUInt64 >>> ((8 : Int32).toInt64.toUInt64 &&& Int64.toUInt64 63)).toInt64).toUInt64 >>> ((16 : Int32).toInt64.toUInt64 &&& Int64.toUInt64 63)).toInt64))]) hx hb dJ13_bitCount_95d88_47 rfl hl (by decide) rfl (fun ls hl => ?_)
  refine lv_lload_n hx hb dJ13_bitCount_95d88_48 rfl (lv_at hl 0 rfl) ?_
  refine lv_lload_n hx hb dJ13_bitCount_95d88_49 rfl (lv_at hl 0 rfl) ?_
  refine lv_bipush (v := 32) hx hb dJ13_bitCount_95d88_50 (by decide) ?_
  refine lv_lushr (v := ((((((((a - ((a.toUInt64 >>> ((1 : Int32).toInt64.toUInt64 &&& Int64.toUInt64 63)).toInt64 &&& 6148914691236517205)) &&& 3689348814741910323) + (((a - ((a.toUInt64 >>> ((1 : Int32).toInt64.toUInt64 &&& Int64.toUInt64 63)).toInt64 &&& 6148914691236517205)).toUInt64 >>> ((2 : Int32).toInt64.toUInt64 &&& Int64.toUInt64 63)).toInt64 &&& 3689348814741910323)) + ((((a - ((a.toUInt64 >>> ((1 : Int32).toInt64.toUInt64 &&& Int64.toUInt64 63)).toInt64 &&& 6148914691236517205)) &&& 3689348814741910323) + (((a - ((a.toUInt64 >>> ((1 : Int32).toInt64.toUInt64 &&& Int64.toUInt64 63)).toInt64 &&& 6148914691236517205)).toUInt64 >>> ((2 : Int32).toInt64.toUInt64 &&& Int64.toUInt64 63)).toInt64 &&& 3689348814741910323)).toUInt64 >>> ((4 : Int32).toInt64.toUInt64 &&& Int64.toUInt64 63)).toInt64) &&& 1085102592571150095) + ((((((a - ((a.toUInt64 >>> ((1 : Int32).toInt64.toUInt64 &&& Int64.toUInt64 63)).toInt64 &&& 6148914691236517205)) &&& 3689348814741910323) + (((a - ((a.toUInt64 >>> ((1 : Int32).toInt64.toUInt64 &&& Int64.toUInt64 63)).toInt64 &&& 6148914691236517205)).toUInt64 >>> ((2 : Int32).toInt64.toUInt64 &&& Int64.toUInt64 63)).toInt64 &&& 3689348814741910323)) + ((((a - ((a.toUInt64 >>> ((1 : Int32).toInt64.toUInt64 &&& Int64.toUInt64 63)).toInt64 &&& 6148914691236517205)) &&& 3689348814741910323) + (((a - ((a.toUInt64 >>> ((1 : Int32).toInt64.toUInt64 &&& Int64.toUInt64 63)).toInt64 &&& 6148914691236517205)).toUInt64 >>> ((2 : Int32).toInt64.toUInt64 &&& Int64.toUInt64 63)).toInt64 &&& 3689348814741910323)).toUInt64 >>> ((4 : Int32).toInt64.toUInt64 &&& Int64.toUInt64 63)).toInt64) &&& 1085102592571150095).toUInt64 >>> ((8 : Int32).toInt64.toUInt64 &&& Int64.toUInt64 63)).toInt64) + (((((((a - ((a.toUInt64 >>> ((1 : Int32).toInt64.toUInt64 &&& Int64.toUInt64 63)).toInt64 &&& 6148914691236517205)) &&& 3689348814741910323) + (((a - ((a.toUInt64 >>> ((1 : Int32).toInt64.toUInt64 &&& Int64.toUInt64 63)).toInt64 &&& 6148914691236517205)).toUInt64 >>> ((2 : Int32).toInt64.toUInt64 &&& Int64.toUInt64 63)).toInt64 &&& 3689348814741910323)) + ((((a - ((a.toUInt64 >>> ((1 : Int32).toInt64.toUInt64 &&& Int64.toUInt64 63)).toInt64 &&& 6148914691236517205)) &&& 3689348814741910323) + (((a - ((a.toUInt64 >>> ((1 : Int32).toInt64.toUInt64 &&& Int64.toUInt64 63)).toInt64 &&& 6148914691236517205)).toUInt64 >>> ((2 : Int32).toInt64.toUInt64 &&& Int64.toUInt64 63)).toInt64 &&& 3689348814741910323)).toUInt64 >>> ((4 : Int32).toInt64.toUInt64 &&& Int64.toUInt64 63)).toInt64) &&& 1085102592571150095) + ((((((a - ((a.toUInt64 >>> ((1 : Int32).toInt64.toUInt64 &&& Int64.toUInt64 63)).toInt64 &&& 6148914691236517205)) &&& 3689348814741910323) + (((a - ((a.toUInt64 >>> ((1 : Int32).toInt64.toUInt64 &&& Int64.toUInt64 63)).toInt64 &&& 6148914691236517205)).toUInt64 >>> ((2 : Int32).toInt64.toUInt64 &&& Int64.toUInt64 63)).toInt64 &&& 3689348814741910323)) + ((((a - ((a.toUInt64 >>> ((1 : Int32).toInt64.toUInt64 &&& Int64.toUInt64 63)).toInt64 &&& 6148914691236517205)) &&& 3689348814741910323) + (((a - ((a.toUInt64 >>> ((1 : Int32).toInt64.toUInt64 &&& Int64.toUInt64 63)).toInt64 &&& 6148914691236517205)).toUInt64 >>> ((2 : Int32).toInt64.toUInt64 &&& Int64.toUInt64 63)).toInt64 &&& 3689348814741910323)).toUInt64 >>> ((4 : Int32).toInt64.toUInt64 &&& Int64.toUInt64 63)).toInt64) &&& 1085102592571150095).toUInt64 >>> ((8 : Int32).toInt64.toUInt64 &&& Int64.toUInt64 63)).toInt64).toUInt64 >>> ((16 : Int32).toInt64.toUInt64 &&& Int64.toUInt64 63)).toInt64).toUInt64 >>> ((32 : Int32).toInt64.toUInt64 &&& Int64.toUInt64 63)).toInt64) hx hb dJ13_bitCount_95d88_52 (by first | rfl | decide) ?_
  refine lv_ladd hx hb dJ13_bitCount_95d88_53 ?_
  refine lv_lstore_n (lv' := [(0, .long ((((((((a - ((a.toUInt64 >>> ((1 : Int32).toInt64.toUInt64 &&& Int64.toUInt64 63)).toInt64 &&& 6148914691236517205)) &&& 3689348814741910323) + (((a - ((a.toUInt64 >>> ((1 : Int32).toInt64.toUInt64 &&& Int64.toUInt64 63)).toInt64 &&& 6148914691236517205)).toUInt64 >>> ((2 : Int32).toInt64.toUInt64 &&& Int64.toUInt64 63)).toInt64 &&& 3689348814741910323)) + ((((a - ((a.toUInt64 >>> ((1 : Int32).toInt64.toUInt64 &&& Int64.toUInt64 63)).toInt64 &&& 6148914691236517205)) &&& 3689348814741910323) + (((a - ((a.toUInt64 >>> ((1 : Int32).toInt64.toUInt64 &&& Int64.toUInt64 63)).toInt64 &&& 6148914691236517205)).toUInt64 >>> ((2 : Int32).toInt64.toUInt64 &&& Int64.toUInt64 63)).toInt64 &&& 3689348814741910323)).toUInt64 >>> ((4 : Int32).toInt64.toUInt64 &&& Int64.toUInt64 63)).toInt64) &&& 1085102592571150095) + ((((((a - ((a.toUInt64 >>> ((1 : Int32).toInt64.toUInt64 &&& Int64.toUInt64 63)).toInt64 &&& 6148914691236517205)) &&& 3689348814741910323) + (((a - ((a.toUInt64 >>> ((1 : Int32).toInt64.toUInt64 &&& Int64.toUInt64 63)).toInt64 &&& 6148914691236517205)).toUInt64 >>> ((2 : Int32).toInt64.toUInt64 &&& Int64.toUInt64 63)).toInt64 &&& 3689348814741910323)) + ((((a - ((a.toUInt64 >>> ((1 : Int32).toInt64.toUInt64 &&& Int64.toUInt64 63)).toInt64 &&& 6148914691236517205)) &&& 3689348814741910323) + (((a - ((a.toUInt64 >>> ((1 : Int32).toInt64.toUInt64 &&& Int64.toUInt64 63)).toInt64 &&& 6148914691236517205)).toUInt64 >>> ((2 : Int32).toInt64.toUInt64 &&& Int64.toUInt64 63)).toInt64 &&& 3689348814741910323)).toUInt64 >>> ((4 : Int32).toInt64.toUInt64 &&& Int64.toUInt64 63)).toInt64) &&& 1085102592571150095).toUInt64 >>> ((8 : Int32).toInt64.toUInt64 &&& Int64.toUInt64 63)).toInt64) + (((((((a - ((a.toUInt64 >>> ((1 : Int32).toInt64.toUInt64 &&& Int64.toUInt64 63)).toInt64 &&& 6148914691236517205)) &&& 3689348814741910323) + (((a - ((a.toUInt64 >>> ((1 : Int32).toInt64.toUInt64 &&& Int64.toUInt64 63)).toInt64 &&& 6148914691236517205)).toUInt64 >>> ((2 : Int32).toInt64.toUInt64 &&& Int64.toUInt64 63)).toInt64 &&& 3689348814741910323)) + ((((a - ((a.toUInt64 >>> ((1 : Int32).toInt64.toUInt64 &&& Int64.toUInt64 63)).toInt64 &&& 6148914691236517205)) &&& 3689348814741910323) + (((a - ((a.toUInt64 >>> ((1 : Int32).toInt64.toUInt64 &&& Int64.toUInt64 63)).toInt64 &&& 6148914691236517205)).toUInt64 >>> ((2 : Int32).toInt64.toUInt64 &&& Int64.toUInt64 63)).toInt64 &&& 3689348814741910323)).toUInt64 >>> ((4 : Int32).toInt64.toUInt64 &&& Int64.toUInt64 63)).toInt64) &&& 1085102592571150095) + ((((((a - ((a.toUInt64 >>> ((1 : Int32).toInt64.toUInt64 &&& Int64.toUInt64 63)).toInt64 &&& 6148914691236517205)) &&& 3689348814741910323) + (((a - ((a.toUInt64 >>> ((1 : Int32).toInt64.toUInt64 &&& Int64.toUInt64 63)).toInt64 &&& 6148914691236517205)).toUInt64 >>> ((2 : Int32).toInt64.toUInt64 &&& Int64.toUInt64 63)).toInt64 &&& 3689348814741910323)) + ((((a - ((a.toUInt64 >>> ((1 : Int32).toInt64.toUInt64 &&& Int64.toUInt64 63)).toInt64 &&& 6148914691236517205)) &&& 3689348814741910323) + (((a - ((a.toUInt64 >>> ((1 : Int32).toInt64.toUInt64 &&& Int64.toUInt64 63)).toInt64 &&& 6148914691236517205)).toUInt64 >>> ((2 : Int32).toInt64.toUInt64 &&& Int64.toUInt64 63)).toInt64 &&& 3689348814741910323)).toUInt64 >>> ((4 : Int32).toInt64.toUInt64 &&& Int64.toUInt64 63)).toInt64) &&& 1085102592571150095).toUInt64 >>> ((8 : Int32).toInt64.toUInt64 &&& Int64.toUInt64 63)).toInt64).toUInt64 >>> ((16 : Int32).toInt64.toUInt64 &&& Int64.toUInt64 63)).toInt64) + ((((((((a - ((a.toUInt64 >>> ((1 : Int32).toInt64.toUInt64 &&& Int64.toUInt64 63)).toInt64 &&& 6148914691236517205)) &&& 3689348814741910323) + (((a - ((a.toUInt64 >>> ((1 : Int32).toInt64.toUInt64 &&& Int64.toUInt64 63)).toInt64 &&& 6148914691236517205)).toUInt64 >>> ((2 : Int32).toInt64.toUInt64 &&& Int64.toUInt64 63)).toInt64 &&& 3689348814741910323)) + ((((a - ((a.toUInt64 >>> ((1 : Int32).toInt64.toUInt64 &&& Int64.toUInt64 63)).toInt64 &&& 6148914691236517205)) &&& 3689348814741910323) + (((a - ((a.toUInt64 >>> ((1 : Int32).toInt64.toUInt64 &&& Int64.toUInt64 63)).toInt64 &&& 6148914691236517205)).toUInt64 >>> ((2 : Int32).toInt64.toUInt64 &&& Int64.toUInt64 63)).toInt64 &&& 3689348814741910323)).toUInt64 >>> ((4 : Int32).toInt64.toUInt64 &&& Int64.toUInt64 63)).toInt64) &&& 1085102592571150095) + ((((((a - ((a.toUInt64 >>> ((1 : Int32).toInt64.toUInt64 &&& Int64.toUInt64 63)).toInt64 &&& 6148914691236517205)) &&& 3689348814741910323) + (((a - ((a.toUInt64 >>> ((1 : Int32).toInt64.toUInt64 &&& Int64.toUInt64 63)).toInt64 &&& 6148914691236517205)).toUInt64 >>> ((2 : Int32).toInt64.toUInt64 &&& Int64.toUInt64 63)).toInt64 &&& 3689348814741910323)) + ((((a - ((a.toUInt64 >>> ((1 : Int32).toInt64.toUInt64 &&& Int64.toUInt64 63)).toInt64 &&& 6148914691236517205)) &&& 3689348814741910323) + (((a - ((a.toUInt64 >>> ((1 : Int32).toInt64.toUInt64 &&& Int64.toUInt64 63)).toInt64 &&& 6148914691236517205)).toUInt64 >>> ((2 : Int32).toInt64.toUInt64 &&& Int64.toUInt64 63)).toInt64 &&& 3689348814741910323)).toUInt64 >>> ((4 : Int32).toInt64.toUInt64 &&& Int64.toUInt64 63)).toInt64) &&& 1085102592571150095).toUInt64 >>> ((8 : Int32).toInt64.toUInt64 &&& Int64.toUInt64 63)).toInt64) + (((((((a - ((a.toUInt64 >>> ((1 : Int32).toInt64.toUInt64 &&& Int64.toUInt64 63)).toInt64 &&& 6148914691236517205)) &&& 3689348814741910323) + (((a - ((a.toUInt64 >>> ((1 : Int32).toInt64.toUInt64 &&& Int64.toUInt64 63)).toInt64 &&& 6148914691236517205)).toUInt64 >>> ((2 : Int32).toInt64.toUInt64 &&& Int64.toUInt64 63)).toInt64 &&& 3689348814741910323)) + ((((a - ((a.toUInt64 >>> ((1 : Int32).toInt64.toUInt64 &&& Int64.toUInt64 63)).toInt64 &&& 6148914691236517205)) &&& 3689348814741910323) + (((a - ((a.toUInt64 >>> ((1 : Int32).toInt64.toUInt64 &&& Int64.toUInt64 63)).toInt64 &&& 6148914691236517205)).toUInt64 >>> ((2 : Int32).toInt64.toUInt64 &&& Int64.toUInt64 63)).toInt64 &&& 3689348814741910323)).toUInt64 >>> ((4 : Int32).toInt64.toUInt64 &&& Int64.toUInt64 63)).toInt64) &&& 1085102592571150095) + ((((((a - ((a.toUInt64 >>> ((1 : Int32).toInt64.toUInt64 &&& Int64.toUInt64 63)).toInt64 &&& 6148914691236517205)) &&& 3689348814741910323) + (((a - ((a.toUInt64 >>> ((1 : Int32).toInt64.toUInt64 &&& Int64.toUInt64 63)).toInt64 &&& 6148914691236517205)).toUInt64 >>> ((2 : Int32).toInt64.toUInt64 &&& Int64.toUInt64 63)).toInt64 &&& 3689348814741910323)) + ((((a - ((a.toUInt64 >>> ((1 : Int32).toInt64.toUInt64 &&& Int64.toUInt64 63)).toInt64 &&& 6148914691236517205)) &&& 3689348814741910323) + (((a - ((a.toUInt64 >>> ((1 : Int32).toInt64.toUInt64 &&& Int64.toUInt64 63)).toInt64 &&& 6148914691236517205)).toUInt64 >>> ((2 : Int32).toInt64.toUInt64 &&& Int64.toUInt64 63)).toInt64 &&& 3689348814741910323)).toUInt64 >>> ((4 : Int32).toInt64.toUInt64 &&& Int64.toUInt64 63)).toInt64) &&& 1085102592571150095).toUInt64 >>> ((8 : Int32).toInt64.toUInt64 &&& Int64.toUInt64 63)).toInt64).toUInt64 >>> ((16 : Int32).toInt64.toUInt64 &&& Int64.toUInt64 63)).toInt64).toUInt64 >>> ((32 : Int32).toInt64.toUInt64 &&& Int64.toUInt64 63)).toInt64))]) hx hb dJ13_bitCount_95d88_54 rfl hl (by decide) rfl (fun ls hl => ?_)
  refine lv_lload_n hx hb dJ13_bitCount_95d88_55 rfl (lv_at hl 0 rfl) ?_
  refine lv_l2i (v := ((((((((a - ((a.toUInt64 >>> ((1 : Int32).toInt64.toUInt64 &&& Int64.toUInt64 63)).toInt64 &&& 6148914691236517205)) &&& 3689348814741910323) + (((a - ((a.toUInt64 >>> ((1 : Int32).toInt64.toUInt64 &&& Int64.toUInt64 63)).toInt64 &&& 6148914691236517205)).toUInt64 >>> ((2 : Int32).toInt64.toUInt64 &&& Int64.toUInt64 63)).toInt64 &&& 3689348814741910323)) + ((((a - ((a.toUInt64 >>> ((1 : Int32).toInt64.toUInt64 &&& Int64.toUInt64 63)).toInt64 &&& 6148914691236517205)) &&& 3689348814741910323) + (((a - ((a.toUInt64 >>> ((1 : Int32).toInt64.toUInt64 &&& Int64.toUInt64 63)).toInt64 &&& 6148914691236517205)).toUInt64 >>> ((2 : Int32).toInt64.toUInt64 &&& Int64.toUInt64 63)).toInt64 &&& 3689348814741910323)).toUInt64 >>> ((4 : Int32).toInt64.toUInt64 &&& Int64.toUInt64 63)).toInt64) &&& 1085102592571150095) + ((((((a - ((a.toUInt64 >>> ((1 : Int32).toInt64.toUInt64 &&& Int64.toUInt64 63)).toInt64 &&& 6148914691236517205)) &&& 3689348814741910323) + (((a - ((a.toUInt64 >>> ((1 : Int32).toInt64.toUInt64 &&& Int64.toUInt64 63)).toInt64 &&& 6148914691236517205)).toUInt64 >>> ((2 : Int32).toInt64.toUInt64 &&& Int64.toUInt64 63)).toInt64 &&& 3689348814741910323)) + ((((a - ((a.toUInt64 >>> ((1 : Int32).toInt64.toUInt64 &&& Int64.toUInt64 63)).toInt64 &&& 6148914691236517205)) &&& 3689348814741910323) + (((a - ((a.toUInt64 >>> ((1 : Int32).toInt64.toUInt64 &&& Int64.toUInt64 63)).toInt64 &&& 6148914691236517205)).toUInt64 >>> ((2 : Int32).toInt64.toUInt64 &&& Int64.toUInt64 63)).toInt64 &&& 3689348814741910323)).toUInt64 >>> ((4 : Int32).toInt64.toUInt64 &&& Int64.toUInt64 63)).toInt64) &&& 1085102592571150095).toUInt64 >>> ((8 : Int32).toInt64.toUInt64 &&& Int64.toUInt64 63)).toInt64) + (((((((a - ((a.toUInt64 >>> ((1 : Int32).toInt64.toUInt64 &&& Int64.toUInt64 63)).toInt64 &&& 6148914691236517205)) &&& 3689348814741910323) + (((a - ((a.toUInt64 >>> ((1 : Int32).toInt64.toUInt64 &&& Int64.toUInt64 63)).toInt64 &&& 6148914691236517205)).toUInt64 >>> ((2 : Int32).toInt64.toUInt64 &&& Int64.toUInt64 63)).toInt64 &&& 3689348814741910323)) + ((((a - ((a.toUInt64 >>> ((1 : Int32).toInt64.toUInt64 &&& Int64.toUInt64 63)).toInt64 &&& 6148914691236517205)) &&& 3689348814741910323) + (((a - ((a.toUInt64 >>> ((1 : Int32).toInt64.toUInt64 &&& Int64.toUInt64 63)).toInt64 &&& 6148914691236517205)).toUInt64 >>> ((2 : Int32).toInt64.toUInt64 &&& Int64.toUInt64 63)).toInt64 &&& 3689348814741910323)).toUInt64 >>> ((4 : Int32).toInt64.toUInt64 &&& Int64.toUInt64 63)).toInt64) &&& 1085102592571150095) + ((((((a - ((a.toUInt64 >>> ((1 : Int32).toInt64.toUInt64 &&& Int64.toUInt64 63)).toInt64 &&& 6148914691236517205)) &&& 3689348814741910323) + (((a - ((a.toUInt64 >>> ((1 : Int32).toInt64.toUInt64 &&& Int64.toUInt64 63)).toInt64 &&& 6148914691236517205)).toUInt64 >>> ((2 : Int32).toInt64.toUInt64 &&& Int64.toUInt64 63)).toInt64 &&& 3689348814741910323)) + ((((a - ((a.toUInt64 >>> ((1 : Int32).toInt64.toUInt64 &&& Int64.toUInt64 63)).toInt64 &&& 6148914691236517205)) &&& 3689348814741910323) + (((a - ((a.toUInt64 >>> ((1 : Int32).toInt64.toUInt64 &&& Int64.toUInt64 63)).toInt64 &&& 6148914691236517205)).toUInt64 >>> ((2 : Int32).toInt64.toUInt64 &&& Int64.toUInt64 63)).toInt64 &&& 3689348814741910323)).toUInt64 >>> ((4 : Int32).toInt64.toUInt64 &&& Int64.toUInt64 63)).toInt64) &&& 1085102592571150095).toUInt64 >>> ((8 : Int32).toInt64.toUInt64 &&& Int64.toUInt64 63)).toInt64).toUInt64 >>> ((16 : Int32).toInt64.toUInt64 &&& Int64.toUInt64 63)).toInt64) + ((((((((a - ((a.toUInt64 >>> ((1 : Int32).toInt64.toUInt64 &&& Int64.toUInt64 63)).toInt64 &&& 6148914691236517205)) &&& 3689348814741910323) + (((a - ((a.toUInt64 >>> ((1 : Int32).toInt64.toUInt64 &&& Int64.toUInt64 63)).toInt64 &&& 6148914691236517205)).toUInt64 >>> ((2 : Int32).toInt64.toUInt64 &&& Int64.toUInt64 63)).toInt64 &&& 3689348814741910323)) + ((((a - ((a.toUInt64 >>> ((1 : Int32).toInt64.toUInt64 &&& Int64.toUInt64 63)).toInt64 &&& 6148914691236517205)) &&& 3689348814741910323) + (((a - ((a.toUInt64 >>> ((1 : Int32).toInt64.toUInt64 &&& Int64.toUInt64 63)).toInt64 &&& 6148914691236517205)).toUInt64 >>> ((2 : Int32).toInt64.toUInt64 &&& Int64.toUInt64 63)).toInt64 &&& 3689348814741910323)).toUInt64 >>> ((4 : Int32).toInt64.toUInt64 &&& Int64.toUInt64 63)).toInt64) &&& 1085102592571150095) + ((((((a - ((a.toUInt64 >>> ((1 : Int32).toInt64.toUInt64 &&& Int64.toUInt64 63)).toInt64 &&& 6148914691236517205)) &&& 3689348814741910323) + (((a - ((a.toUInt64 >>> ((1 : Int32).toInt64.toUInt64 &&& Int64.toUInt64 63)).toInt64 &&& 6148914691236517205)).toUInt64 >>> ((2 : Int32).toInt64.toUInt64 &&& Int64.toUInt64 63)).toInt64 &&& 3689348814741910323)) + ((((a - ((a.toUInt64 >>> ((1 : Int32).toInt64.toUInt64 &&& Int64.toUInt64 63)).toInt64 &&& 6148914691236517205)) &&& 3689348814741910323) + (((a - ((a.toUInt64 >>> ((1 : Int32).toInt64.toUInt64 &&& Int64.toUInt64 63)).toInt64 &&& 6148914691236517205)).toUInt64 >>> ((2 : Int32).toInt64.toUInt64 &&& Int64.toUInt64 63)).toInt64 &&& 3689348814741910323)).toUInt64 >>> ((4 : Int32).toInt64.toUInt64 &&& Int64.toUInt64 63)).toInt64) &&& 1085102592571150095).toUInt64 >>> ((8 : Int32).toInt64.toUInt64 &&& Int64.toUInt64 63)).toInt64) + (((((((a - ((a.toUInt64 >>> ((1 : Int32).toInt64.toUInt64 &&& Int64.toUInt64 63)).toInt64 &&& 6148914691236517205)) &&& 3689348814741910323) + (((a - ((a.toUInt64 >>> ((1 : Int32).toInt64.toUInt64 &&& Int64.toUInt64 63)).toInt64 &&& 6148914691236517205)).toUInt64 >>> ((2 : Int32).toInt64.toUInt64 &&& Int64.toUInt64 63)).toInt64 &&& 3689348814741910323)) + ((((a - ((a.toUInt64 >>> ((1 : Int32).toInt64.toUInt64 &&& Int64.toUInt64 63)).toInt64 &&& 6148914691236517205)) &&& 3689348814741910323) + (((a - ((a.toUInt64 >>> ((1 : Int32).toInt64.toUInt64 &&& Int64.toUInt64 63)).toInt64 &&& 6148914691236517205)).toUInt64 >>> ((2 : Int32).toInt64.toUInt64 &&& Int64.toUInt64 63)).toInt64 &&& 3689348814741910323)).toUInt64 >>> ((4 : Int32).toInt64.toUInt64 &&& Int64.toUInt64 63)).toInt64) &&& 1085102592571150095) + ((((((a - ((a.toUInt64 >>> ((1 : Int32).toInt64.toUInt64 &&& Int64.toUInt64 63)).toInt64 &&& 6148914691236517205)) &&& 3689348814741910323) + (((a - ((a.toUInt64 >>> ((1 : Int32).toInt64.toUInt64 &&& Int64.toUInt64 63)).toInt64 &&& 6148914691236517205)).toUInt64 >>> ((2 : Int32).toInt64.toUInt64 &&& Int64.toUInt64 63)).toInt64 &&& 3689348814741910323)) + ((((a - ((a.toUInt64 >>> ((1 : Int32).toInt64.toUInt64 &&& Int64.toUInt64 63)).toInt64 &&& 6148914691236517205)) &&& 3689348814741910323) + (((a - ((a.toUInt64 >>> ((1 : Int32).toInt64.toUInt64 &&& Int64.toUInt64 63)).toInt64 &&& 6148914691236517205)).toUInt64 >>> ((2 : Int32).toInt64.toUInt64 &&& Int64.toUInt64 63)).toInt64 &&& 3689348814741910323)).toUInt64 >>> ((4 : Int32).toInt64.toUInt64 &&& Int64.toUInt64 63)).toInt64) &&& 1085102592571150095).toUInt64 >>> ((8 : Int32).toInt64.toUInt64 &&& Int64.toUInt64 63)).toInt64).toUInt64 >>> ((16 : Int32).toInt64.toUInt64 &&& Int64.toUInt64 63)).toInt64).toUInt64 >>> ((32 : Int32).toInt64.toUInt64 &&& Int64.toUInt64 63)).toInt64).toInt32) hx hb dJ13_bitCount_95d88_56 (by first | rfl | decide) ?_
  refine lv_bipush (v := 127) hx hb dJ13_bitCount_95d88_57 (by decide) ?_
  refine lv_iand hx hb dJ13_bitCount_95d88_59 ?_
  exact W.iret (v := (((((((((a - ((a.toUInt64 >>> ((1 : Int32).toInt64.toUInt64 &&& Int64.toUInt64 63)).toInt64 &&& 6148914691236517205)) &&& 3689348814741910323) + (((a - ((a.toUInt64 >>> ((1 : Int32).toInt64.toUInt64 &&& Int64.toUInt64 63)).toInt64 &&& 6148914691236517205)).toUInt64 >>> ((2 : Int32).toInt64.toUInt64 &&& Int64.toUInt64 63)).toInt64 &&& 3689348814741910323)) + ((((a - ((a.toUInt64 >>> ((1 : Int32).toInt64.toUInt64 &&& Int64.toUInt64 63)).toInt64 &&& 6148914691236517205)) &&& 3689348814741910323) + (((a - ((a.toUInt64 >>> ((1 : Int32).toInt64.toUInt64 &&& Int64.toUInt64 63)).toInt64 &&& 6148914691236517205)).toUInt64 >>> ((2 : Int32).toInt64.toUInt64 &&& Int64.toUInt64 63)).toInt64 &&& 3689348814741910323)).toUInt64 >>> ((4 : Int32).toInt64.toUInt64 &&& Int64.toUInt64 63)).toInt64) &&& 1085102592571150095) + ((((((a - ((a.toUInt64 >>> ((1 : Int32).toInt64.toUInt64 &&& Int64.toUInt64 63)).toInt64 &&& 6148914691236517205)) &&& 3689348814741910323) + (((a - ((a.toUInt64 >>> ((1 : Int32).toInt64.toUInt64 &&& Int64.toUInt64 63)).toInt64 &&& 6148914691236517205)).toUInt64 >>> ((2 : Int32).toInt64.toUInt64 &&& Int64.toUInt64 63)).toInt64 &&& 3689348814741910323)) + ((((a - ((a.toUInt64 >>> ((1 : Int32).toInt64.toUInt64 &&& Int64.toUInt64 63)).toInt64 &&& 6148914691236517205)) &&& 3689348814741910323) + (((a - ((a.toUInt64 >>> ((1 : Int32).toInt64.toUInt64 &&& Int64.toUInt64 63)).toInt64 &&& 6148914691236517205)).toUInt64 >>> ((2 : Int32).toInt64.toUInt64 &&& Int64.toUInt64 63)).toInt64 &&& 3689348814741910323)).toUInt64 >>> ((4 : Int32).toInt64.toUInt64 &&& Int64.toUInt64 63)).toInt64) &&& 1085102592571150095).toUInt64 >>> ((8 : Int32).toInt64.toUInt64 &&& Int64.toUInt64 63)).toInt64) + (((((((a - ((a.toUInt64 >>> ((1 : Int32).toInt64.toUInt64 &&& Int64.toUInt64 63)).toInt64 &&& 6148914691236517205)) &&& 3689348814741910323) + (((a - ((a.toUInt64 >>> ((1 : Int32).toInt64.toUInt64 &&& Int64.toUInt64 63)).toInt64 &&& 6148914691236517205)).toUInt64 >>> ((2 : Int32).toInt64.toUInt64 &&& Int64.toUInt64 63)).toInt64 &&& 3689348814741910323)) + ((((a - ((a.toUInt64 >>> ((1 : Int32).toInt64.toUInt64 &&& Int64.toUInt64 63)).toInt64 &&& 6148914691236517205)) &&& 3689348814741910323) + (((a - ((a.toUInt64 >>> ((1 : Int32).toInt64.toUInt64 &&& Int64.toUInt64 63)).toInt64 &&& 6148914691236517205)).toUInt64 >>> ((2 : Int32).toInt64.toUInt64 &&& Int64.toUInt64 63)).toInt64 &&& 3689348814741910323)).toUInt64 >>> ((4 : Int32).toInt64.toUInt64 &&& Int64.toUInt64 63)).toInt64) &&& 1085102592571150095) + ((((((a - ((a.toUInt64 >>> ((1 : Int32).toInt64.toUInt64 &&& Int64.toUInt64 63)).toInt64 &&& 6148914691236517205)) &&& 3689348814741910323) + (((a - ((a.toUInt64 >>> ((1 : Int32).toInt64.toUInt64 &&& Int64.toUInt64 63)).toInt64 &&& 6148914691236517205)).toUInt64 >>> ((2 : Int32).toInt64.toUInt64 &&& Int64.toUInt64 63)).toInt64 &&& 3689348814741910323)) + ((((a - ((a.toUInt64 >>> ((1 : Int32).toInt64.toUInt64 &&& Int64.toUInt64 63)).toInt64 &&& 6148914691236517205)) &&& 3689348814741910323) + (((a - ((a.toUInt64 >>> ((1 : Int32).toInt64.toUInt64 &&& Int64.toUInt64 63)).toInt64 &&& 6148914691236517205)).toUInt64 >>> ((2 : Int32).toInt64.toUInt64 &&& Int64.toUInt64 63)).toInt64 &&& 3689348814741910323)).toUInt64 >>> ((4 : Int32).toInt64.toUInt64 &&& Int64.toUInt64 63)).toInt64) &&& 1085102592571150095).toUInt64 >>> ((8 : Int32).toInt64.toUInt64 &&& Int64.toUInt64 63)).toInt64).toUInt64 >>> ((16 : Int32).toInt64.toUInt64 &&& Int64.toUInt64 63)).toInt64) + ((((((((a - ((a.toUInt64 >>> ((1 : Int32).toInt64.toUInt64 &&& Int64.toUInt64 63)).toInt64 &&& 6148914691236517205)) &&& 3689348814741910323) + (((a - ((a.toUInt64 >>> ((1 : Int32).toInt64.toUInt64 &&& Int64.toUInt64 63)).toInt64 &&& 6148914691236517205)).toUInt64 >>> ((2 : Int32).toInt64.toUInt64 &&& Int64.toUInt64 63)).toInt64 &&& 3689348814741910323)) + ((((a - ((a.toUInt64 >>> ((1 : Int32).toInt64.toUInt64 &&& Int64.toUInt64 63)).toInt64 &&& 6148914691236517205)) &&& 3689348814741910323) + (((a - ((a.toUInt64 >>> ((1 : Int32).toInt64.toUInt64 &&& Int64.toUInt64 63)).toInt64 &&& 6148914691236517205)).toUInt64 >>> ((2 : Int32).toInt64.toUInt64 &&& Int64.toUInt64 63)).toInt64 &&& 3689348814741910323)).toUInt64 >>> ((4 : Int32).toInt64.toUInt64 &&& Int64.toUInt64 63)).toInt64) &&& 1085102592571150095) + ((((((a - ((a.toUInt64 >>> ((1 : Int32).toInt64.toUInt64 &&& Int64.toUInt64 63)).toInt64 &&& 6148914691236517205)) &&& 3689348814741910323) + (((a - ((a.toUInt64 >>> ((1 : Int32).toInt64.toUInt64 &&& Int64.toUInt64 63)).toInt64 &&& 6148914691236517205)).toUInt64 >>> ((2 : Int32).toInt64.toUInt64 &&& Int64.toUInt64 63)).toInt64 &&& 3689348814741910323)) + ((((a - ((a.toUInt64 >>> ((1 : Int32).toInt64.toUInt64 &&& Int64.toUInt64 63)).toInt64 &&& 6148914691236517205)) &&& 3689348814741910323) + (((a - ((a.toUInt64 >>> ((1 : Int32).toInt64.toUInt64 &&& Int64.toUInt64 63)).toInt64 &&& 6148914691236517205)).toUInt64 >>> ((2 : Int32).toInt64.toUInt64 &&& Int64.toUInt64 63)).toInt64 &&& 3689348814741910323)).toUInt64 >>> ((4 : Int32).toInt64.toUInt64 &&& Int64.toUInt64 63)).toInt64) &&& 1085102592571150095).toUInt64 >>> ((8 : Int32).toInt64.toUInt64 &&& Int64.toUInt64 63)).toInt64) + (((((((a - ((a.toUInt64 >>> ((1 : Int32).toInt64.toUInt64 &&& Int64.toUInt64 63)).toInt64 &&& 6148914691236517205)) &&& 3689348814741910323) + (((a - ((a.toUInt64 >>> ((1 : Int32).toInt64.toUInt64 &&& Int64.toUInt64 63)).toInt64 &&& 6148914691236517205)).toUInt64 >>> ((2 : Int32).toInt64.toUInt64 &&& Int64.toUInt64 63)).toInt64 &&& 3689348814741910323)) + ((((a - ((a.toUInt64 >>> ((1 : Int32).toInt64.toUInt64 &&& Int64.toUInt64 63)).toInt64 &&& 6148914691236517205)) &&& 3689348814741910323) + (((a - ((a.toUInt64 >>> ((1 : Int32).toInt64.toUInt64 &&& Int64.toUInt64 63)).toInt64 &&& 6148914691236517205)).toUInt64 >>> ((2 : Int32).toInt64.toUInt64 &&& Int64.toUInt64 63)).toInt64 &&& 3689348814741910323)).toUInt64 >>> ((4 : Int32).toInt64.toUInt64 &&& Int64.toUInt64 63)).toInt64) &&& 1085102592571150095) + ((((((a - ((a.toUInt64 >>> ((1 : Int32).toInt64.toUInt64 &&& Int64.toUInt64 63)).toInt64 &&& 6148914691236517205)) &&& 3689348814741910323) + (((a - ((a.toUInt64 >>> ((1 : Int32).toInt64.toUInt64 &&& Int64.toUInt64 63)).toInt64 &&& 6148914691236517205)).toUInt64 >>> ((2 : Int32).toInt64.toUInt64 &&& Int64.toUInt64 63)).toInt64 &&& 3689348814741910323)) + ((((a - ((a.toUInt64 >>> ((1 : Int32).toInt64.toUInt64 &&& Int64.toUInt64 63)).toInt64 &&& 6148914691236517205)) &&& 3689348814741910323) + (((a - ((a.toUInt64 >>> ((1 : Int32).toInt64.toUInt64 &&& Int64.toUInt64 63)).toInt64 &&& 6148914691236517205)).toUInt64 >>> ((2 : Int32).toInt64.toUInt64 &&& Int64.toUInt64 63)).toInt64 &&& 3689348814741910323)).toUInt64 >>> ((4 : Int32).toInt64.toUInt64 &&& Int64.toUInt64 63)).toInt64) &&& 1085102592571150095).toUInt64 >>> ((8 : Int32).toInt64.toUInt64 &&& Int64.toUInt64 63)).toInt64).toUInt64 >>> ((16 : Int32).toInt64.toUInt64 &&& Int64.toUInt64 63)).toInt64).toUInt64 >>> ((32 : Int32).toInt64.toUInt64 &&& Int64.toUInt64 63)).toInt64).toInt32 &&& 127)) hx hb hr (fun t ht hW => ⟨(((((((((a - ((a.toUInt64 >>> ((1 : Int32).toInt64.toUInt64 &&& Int64.toUInt64 63)).toInt64 &&& 6148914691236517205)) &&& 3689348814741910323) + (((a - ((a.toUInt64 >>> ((1 : Int32).toInt64.toUInt64 &&& Int64.toUInt64 63)).toInt64 &&& 6148914691236517205)).toUInt64 >>> ((2 : Int32).toInt64.toUInt64 &&& Int64.toUInt64 63)).toInt64 &&& 3689348814741910323)) + ((((a - ((a.toUInt64 >>> ((1 : Int32).toInt64.toUInt64 &&& Int64.toUInt64 63)).toInt64 &&& 6148914691236517205)) &&& 3689348814741910323) + (((a - ((a.toUInt64 >>> ((1 : Int32).toInt64.toUInt64 &&& Int64.toUInt64 63)).toInt64 &&& 6148914691236517205)).toUInt64 >>> ((2 : Int32).toInt64.toUInt64 &&& Int64.toUInt64 63)).toInt64 &&& 3689348814741910323)).toUInt64 >>> ((4 : Int32).toInt64.toUInt64 &&& Int64.toUInt64 63)).toInt64) &&& 1085102592571150095) + ((((((a - ((a.toUInt64 >>> ((1 : Int32).toInt64.toUInt64 &&& Int64.toUInt64 63)).toInt64 &&& 6148914691236517205)) &&& 3689348814741910323) + (((a - ((a.toUInt64 >>> ((1 : Int32).toInt64.toUInt64 &&& Int64.toUInt64 63)).toInt64 &&& 6148914691236517205)).toUInt64 >>> ((2 : Int32).toInt64.toUInt64 &&& Int64.toUInt64 63)).toInt64 &&& 3689348814741910323)) + ((((a - ((a.toUInt64 >>> ((1 : Int32).toInt64.toUInt64 &&& Int64.toUInt64 63)).toInt64 &&& 6148914691236517205)) &&& 3689348814741910323) + (((a - ((a.toUInt64 >>> ((1 : Int32).toInt64.toUInt64 &&& Int64.toUInt64 63)).toInt64 &&& 6148914691236517205)).toUInt64 >>> ((2 : Int32).toInt64.toUInt64 &&& Int64.toUInt64 63)).toInt64 &&& 3689348814741910323)).toUInt64 >>> ((4 : Int32).toInt64.toUInt64 &&& Int64.toUInt64 63)).toInt64) &&& 1085102592571150095).toUInt64 >>> ((8 : Int32).toInt64.toUInt64 &&& Int64.toUInt64 63)).toInt64) + (((((((a - ((a.toUInt64 >>> ((1 : Int32).toInt64.toUInt64 &&& Int64.toUInt64 63)).toInt64 &&& 6148914691236517205)) &&& 3689348814741910323) + (((a - ((a.toUInt64 >>> ((1 : Int32).toInt64.toUInt64 &&& Int64.toUInt64 63)).toInt64 &&& 6148914691236517205)).toUInt64 >>> ((2 : Int32).toInt64.toUInt64 &&& Int64.toUInt64 63)).toInt64 &&& 3689348814741910323)) + ((((a - ((a.toUInt64 >>> ((1 : Int32).toInt64.toUInt64 &&& Int64.toUInt64 63)).toInt64 &&& 6148914691236517205)) &&& 3689348814741910323) + (((a - ((a.toUInt64 >>> ((1 : Int32).toInt64.toUInt64 &&& Int64.toUInt64 63)).toInt64 &&& 6148914691236517205)).toUInt64 >>> ((2 : Int32).toInt64.toUInt64 &&& Int64.toUInt64 63)).toInt64 &&& 3689348814741910323)).toUInt64 >>> ((4 : Int32).toInt64.toUInt64 &&& Int64.toUInt64 63)).toInt64) &&& 1085102592571150095) + ((((((a - ((a.toUInt64 >>> ((1 : Int32).toInt64.toUInt64 &&& Int64.toUInt64 63)).toInt64 &&& 6148914691236517205)) &&& 3689348814741910323) + (((a - ((a.toUInt64 >>> ((1 : Int32).toInt64.toUInt64 &&& Int64.toUInt64 63)).toInt64 &&& 6148914691236517205)).toUInt64 >>> ((2 : Int32).toInt64.toUInt64 &&& Int64.toUInt64 63)).toInt64 &&& 3689348814741910323)) + ((((a - ((a.toUInt64 >>> ((1 : Int32).toInt64.toUInt64 &&& Int64.toUInt64 63)).toInt64 &&& 6148914691236517205)) &&& 3689348814741910323) + (((a - ((a.toUInt64 >>> ((1 : Int32).toInt64.toUInt64 &&& Int64.toUInt64 63)).toInt64 &&& 6148914691236517205)).toUInt64 >>> ((2 : Int32).toInt64.toUInt64 &&& Int64.toUInt64 63)).toInt64 &&& 3689348814741910323)).toUInt64 >>> ((4 : Int32).toInt64.toUInt64 &&& Int64.toUInt64 63)).toInt64) &&& 1085102592571150095).toUInt64 >>> ((8 : Int32).toInt64.toUInt64 &&& Int64.toUInt64 63)).toInt64).toUInt64 >>> ((16 : Int32).toInt64.toUInt64 &&& Int64.toUInt64 63)).toInt64) + ((((((((a - ((a.toUInt64 >>> ((1 : Int32).toInt64.toUInt64 &&& Int64.toUInt64 63)).toInt64 &&& 6148914691236517205)) &&& 3689348814741910323) + (((a - ((a.toUInt64 >>> ((1 : Int32).toInt64.toUInt64 &&& Int64.toUInt64 63)).toInt64 &&& 6148914691236517205)).toUInt64 >>> ((2 : Int32).toInt64.toUInt64 &&& Int64.toUInt64 63)).toInt64 &&& 3689348814741910323)) + ((((a - ((a.toUInt64 >>> ((1 : Int32).toInt64.toUInt64 &&& Int64.toUInt64 63)).toInt64 &&& 6148914691236517205)) &&& 3689348814741910323) + (((a - ((a.toUInt64 >>> ((1 : Int32).toInt64.toUInt64 &&& Int64.toUInt64 63)).toInt64 &&& 6148914691236517205)).toUInt64 >>> ((2 : Int32).toInt64.toUInt64 &&& Int64.toUInt64 63)).toInt64 &&& 3689348814741910323)).toUInt64 >>> ((4 : Int32).toInt64.toUInt64 &&& Int64.toUInt64 63)).toInt64) &&& 1085102592571150095) + ((((((a - ((a.toUInt64 >>> ((1 : Int32).toInt64.toUInt64 &&& Int64.toUInt64 63)).toInt64 &&& 6148914691236517205)) &&& 3689348814741910323) + (((a - ((a.toUInt64 >>> ((1 : Int32).toInt64.toUInt64 &&& Int64.toUInt64 63)).toInt64 &&& 6148914691236517205)).toUInt64 >>> ((2 : Int32).toInt64.toUInt64 &&& Int64.toUInt64 63)).toInt64 &&& 3689348814741910323)) + ((((a - ((a.toUInt64 >>> ((1 : Int32).toInt64.toUInt64 &&& Int64.toUInt64 63)).toInt64 &&& 6148914691236517205)) &&& 3689348814741910323) + (((a - ((a.toUInt64 >>> ((1 : Int32).toInt64.toUInt64 &&& Int64.toUInt64 63)).toInt64 &&& 6148914691236517205)).toUInt64 >>> ((2 : Int32).toInt64.toUInt64 &&& Int64.toUInt64 63)).toInt64 &&& 3689348814741910323)).toUInt64 >>> ((4 : Int32).toInt64.toUInt64 &&& Int64.toUInt64 63)).toInt64) &&& 1085102592571150095).toUInt64 >>> ((8 : Int32).toInt64.toUInt64 &&& Int64.toUInt64 63)).toInt64) + (((((((a - ((a.toUInt64 >>> ((1 : Int32).toInt64.toUInt64 &&& Int64.toUInt64 63)).toInt64 &&& 6148914691236517205)) &&& 3689348814741910323) + (((a - ((a.toUInt64 >>> ((1 : Int32).toInt64.toUInt64 &&& Int64.toUInt64 63)).toInt64 &&& 6148914691236517205)).toUInt64 >>> ((2 : Int32).toInt64.toUInt64 &&& Int64.toUInt64 63)).toInt64 &&& 3689348814741910323)) + ((((a - ((a.toUInt64 >>> ((1 : Int32).toInt64.toUInt64 &&& Int64.toUInt64 63)).toInt64 &&& 6148914691236517205)) &&& 3689348814741910323) + (((a - ((a.toUInt64 >>> ((1 : Int32).toInt64.toUInt64 &&& Int64.toUInt64 63)).toInt64 &&& 6148914691236517205)).toUInt64 >>> ((2 : Int32).toInt64.toUInt64 &&& Int64.toUInt64 63)).toInt64 &&& 3689348814741910323)).toUInt64 >>> ((4 : Int32).toInt64.toUInt64 &&& Int64.toUInt64 63)).toInt64) &&& 1085102592571150095) + ((((((a - ((a.toUInt64 >>> ((1 : Int32).toInt64.toUInt64 &&& Int64.toUInt64 63)).toInt64 &&& 6148914691236517205)) &&& 3689348814741910323) + (((a - ((a.toUInt64 >>> ((1 : Int32).toInt64.toUInt64 &&& Int64.toUInt64 63)).toInt64 &&& 6148914691236517205)).toUInt64 >>> ((2 : Int32).toInt64.toUInt64 &&& Int64.toUInt64 63)).toInt64 &&& 3689348814741910323)) + ((((a - ((a.toUInt64 >>> ((1 : Int32).toInt64.toUInt64 &&& Int64.toUInt64 63)).toInt64 &&& 6148914691236517205)) &&& 3689348814741910323) + (((a - ((a.toUInt64 >>> ((1 : Int32).toInt64.toUInt64 &&& Int64.toUInt64 63)).toInt64 &&& 6148914691236517205)).toUInt64 >>> ((2 : Int32).toInt64.toUInt64 &&& Int64.toUInt64 63)).toInt64 &&& 3689348814741910323)).toUInt64 >>> ((4 : Int32).toInt64.toUInt64 &&& Int64.toUInt64 63)).toInt64) &&& 1085102592571150095).toUInt64 >>> ((8 : Int32).toInt64.toUInt64 &&& Int64.toUInt64 63)).toInt64).toUInt64 >>> ((16 : Int32).toInt64.toUInt64 &&& Int64.toUInt64 63)).toInt64).toUInt64 >>> ((32 : Int32).toInt64.toUInt64 &&& Int64.toUInt64 63)).toInt64).toInt32 &&& 127), rfl, rfl, ht⟩) (fun q h => by cases h) dJ13_bitCount_95d88_60

set_option maxHeartbeats 1000000 in
set_option maxRecDepth 100000 in
theorem lp_share (l : Launch) (G : va_G) (cs : Nat → ClassId) (h0 : Nat) (aW : Nat) (aA : Nat) (a : Int64) (f_h0_0 : Value) (f_h0_1 : Value) (f_h0_2 : Value) (f_h0_3 : Value) (f_h0_4 : Value) (f_h0_5 : Value) (hd : Nat) (f_h0_7 : Value) (hf : Nat) (f_h0_9 : Value) (f_h0_10 : Value) (f_aW_0 : Value) (aC : Nat) (f_aW_2 : Value) (f_aW_3 : Value) (f_aW_4 : Value) (f_aW_5 : Value) (f_aW_6 : Value) (f_aC_0 : Value) (f_aC_1 : Value) (df : Nat → Int32) (ff : Nat → Int32) (hc0 : ¬ a = 0) (hr0 : rng a) {p : Program} {e : Env} {s : State} {m : MethodId} {args : Array Value} {below : List Frame} {meth : Method} {c : Code} {Q : State → Prop} {A : Nat → Prop} {H0 : Heap} (hx : p.tables.exec = Jvm.exec) (hb : c.code = cX9_share) (hml : c.maxLocals = 10) (hown : s.vm.findClass RX9 = some m.cls) (htl : ∀ w ∈ gW, w.before args s = true) (hN : NW s) (hK : va_K G vwCl (tyL cs) s) (hA : ∀ q, H0.size ≤ q → A q) (K : ∀ (k : Nat) (g : Nat → Int32) (H : Heap) (locs : List Loc) (ls : Array Slot), 1 ≤ k → k ≤ 6 → va_P G vwCl [(h0, .inr (9, [f_h0_0, f_h0_1, f_h0_2, f_h0_3, f_h0_4, f_h0_5, .ref hd, f_h0_7, .ref hf, f_h0_9, f_h0_10])), (aW, .inr (10, [f_aW_0, .ref aC, f_aW_2, f_aW_3, f_aW_4, f_aW_5, f_aW_6])), (aC, .inr (1, [f_aC_0, f_aC_1, .int 0])), (hd, .inl (cs 0, 6, .inl g)), (hf, .inl (cs 0, 448, .inl ff))] H → va_D A [(h0, .inr (9, [f_h0_0, f_h0_1, f_h0_2, f_h0_3, f_h0_4, f_h0_5, .ref hd, f_h0_7, .ref hf, f_h0_9, f_h0_10])), (aW, .inr (10, [f_aW_0, .ref aC, f_aW_2, f_aW_3, f_aW_4, f_aW_5, f_aW_6])), (aC, .inr (1, [f_aC_0, f_aC_1, .int 0])), (hd, .inl (cs 0, 6, .inl g)), (hf, .inl (cs 0, 448, .inl ff))] → va_S A H0 H locs → lv_has ls 10 [(0, .ref h0), (1, .ref aW), (2, .ref aA), (3, .long a), (5, .int (nI k))] → W p l e (headSpec (Cond.code yX9_share cX9_share 10 (some .boolean) :: gW) ({ frames := 1, cells := 0, slots := 0, locals := 26 })).room s m args below meth c H locs 0 0 Q (F0 m 49 ls [])) : ∀ (n i : Nat), i + n = 40 → ∀ (k : Nat) (g : Nat → Int32) (H : Heap) (locs : List Loc) (ls : Array Slot), k ≤ 6 → (k = 0 → ∀ j, j < i → bz a j) → va_P G vwCl [(h0, .inr (9, [f_h0_0, f_h0_1, f_h0_2, f_h0_3, f_h0_4, f_h0_5, .ref hd, f_h0_7, .ref hf, f_h0_9, f_h0_10])), (aW, .inr (10, [f_aW_0, .ref aC, f_aW_2, f_aW_3, f_aW_4, f_aW_5, f_aW_6])), (aC, .inr (1, [f_aC_0, f_aC_1, .int 0])), (hd, .inl (cs 0, 6, .inl g)), (hf, .inl (cs 0, 448, .inl ff))] H → va_D A [(h0, .inr (9, [f_h0_0, f_h0_1, f_h0_2, f_h0_3, f_h0_4, f_h0_5, .ref hd, f_h0_7, .ref hf, f_h0_9, f_h0_10])), (aW, .inr (10, [f_aW_0, .ref aC, f_aW_2, f_aW_3, f_aW_4, f_aW_5, f_aW_6])), (aC, .inr (1, [f_aC_0, f_aC_1, .int 0])), (hd, .inl (cs 0, 6, .inl g)), (hf, .inl (cs 0, 448, .inl ff))] → va_S A H0 H locs → lv_has ls 10 [(0, .ref h0), (1, .ref aW), (2, .ref aA), (3, .long a), (5, .int (nI k)), (6, .int (nI i))] → W p l e (headSpec (Cond.code yX9_share cX9_share 10 (some .boolean) :: gW) ({ frames := 1, cells := 0, slots := 0, locals := 26 })).room s m args below meth c H locs 0 0 Q (F0 m 6 ls []) := by
  intro n
  induction n with
  | zero =>
    intro i hi k g H locs ls hk hrel hP hD hS hl
    obtain rfl : i = 40 := by omega
    refine lv_iload hx hb dX9_share_6 (lv_at hl 5 rfl) ?_
    refine lv_bipush (v := 40) hx hb dX9_share_8 (by decide) ?_
    refine lv_icmp_ge (tgt := 49) hx hb dX9_share_10 (by decide) (fun _ => ?_) (fun h => absurd (by decide) h)
    exact K k (g) H locs ls (Nat.pos_of_ne_zero fun e => sh_k hr0 hc0 (hrel e)) (by omega) (hP.pick (is := [0, 1, 2, 3, 4]) rfl) (hD.sub [0, 1, 2, 3, 4] rfl rfl) hS (lv_sub hl [0, 1, 2, 3, 4] rfl)
  | succ n ih =>
    intro i hi k g H locs ls hk hrel hP hD hS hl
    by_cases h6 : k = 6
    · subst h6
      refine lv_iload hx hb dX9_share_6 (lv_at hl 5 rfl) ?_
      refine lv_bipush (v := 40) hx hb dX9_share_8 (by decide) ?_
      refine lv_icmp_ge (tgt := 49) hx hb dX9_share_10 (by decide) (fun h => absurd h (nI_ge (a := i) (b := 40) (by omega) (by decide))) (fun _ => ?_)
      refine lv_iload hx hb dX9_share_13 (lv_at hl 4 rfl) ?_
      refine lv_bipush (v := 6) hx hb dX9_share_15 (by decide) ?_
      refine lv_icmp_ge (tgt := 49) hx hb dX9_share_17 (by decide) (fun _ => ?_) (fun h => absurd (by decide) h)
      exact K 6 (g) H locs ls (by omega) (by omega) (hP.pick (is := [0, 1, 2, 3, 4]) rfl) (hD.sub [0, 1, 2, 3, 4] rfl rfl) hS (lv_sub hl [0, 1, 2, 3, 4] rfl)
    refine lv_iload hx hb dX9_share_6 (lv_at hl 5 rfl) ?_
    refine lv_bipush (v := 40) hx hb dX9_share_8 (by decide) ?_
    refine lv_icmp_ge (tgt := 49) hx hb dX9_share_10 (by decide) (fun h => absurd h (nI_ge (a := i) (b := 40) (by omega) (by decide))) (fun _ => ?_)
    refine lv_iload hx hb dX9_share_13 (lv_at hl 4 rfl) ?_
    refine lv_bipush (v := 6) hx hb dX9_share_15 (by decide) ?_
    refine lv_icmp_ge (tgt := 49) hx hb dX9_share_17 (by decide) (fun h => absurd h (nI_ge (a := k) (b := 6) (by omega) (by decide))) (fun _ => ?_)
    refine lv_lload_n hx hb dX9_share_20 rfl (lv_at hl 3 rfl) ?_
    refine lv_iload hx hb dX9_share_21 (lv_at hl 5 rfl) ?_
    refine lv_lshr (v := (a >>> ((nI i).toInt64 &&& 63))) hx hb dX9_share_23 (by first | rfl | decide) ?_
    refine lv_lconst (v := 1) hx hb dX9_share_24 (by decide) ?_
    refine lv_land hx hb dX9_share_25 ?_
    refine lv_lconst (v := 0) hx hb dX9_share_26 (by decide) ?_
    refine W.lcmp hx hb dX9_share_27 ?_
    refine lv_if_eq (tgt := 43) hx hb dX9_share_28 (by decide) (fun c_28 => ?_) (fun c_28 => ?_)
    · refine lv_iinc (v := ((nI i) + 1)) (lv' := [(6, .int ((nI i) + 1)), (0, .ref h0), (1, .ref aW), (2, .ref aA), (3, .long a), (5, .int (nI k))]) hx hb dX9_share_43 hl (k := 5) rfl (by first | rfl | decide) (by decide) rfl (fun ls hl => ?_)
      refine lv_goto (tgt := 6) hx hb dX9_share_46 (by decide) ?_
      rw [nI_1] at hl
      exact ih (i + 1) (by omega) k g H locs ls hk (fun e => bz_up (hrel e) c_28) (hP.pick (is := [0, 1, 2, 3, 4]) rfl) (hD.sub [0, 1, 2, 3, 4] rfl rfl) hS (lv_sub hl [1, 2, 3, 4, 5, 0] rfl)
    · refine lv_aload_n hx hb dX9_share_31 rfl (lv_at hl 0 rfl) ?_
      refine va_get (ci := 9) (v := .ref hd) (C := RX9) (T := TX9) (N := 11) hx hb htl inX9 hown hK hP 0 rfl rfl 6 (by decide) (htl _ fl_RX9_25) (fun _ h9 => h9) rfl dX9_share_32 ?_
      refine lv_iload hx hb dX9_share_35 (lv_at hl 4 rfl) ?_
      refine lv_iload hx hb dX9_share_37 (lv_at hl 5 rfl) ?_
      refine va_iast hx hb hK hP hD hS 3 0 rfl rfl (vp_in_nI (by omega) (by decide)) dX9_share_39 (fun H locs hP hD hS => ?_)
      have hP : va_P G vwCl [(h0, .inr (9, [f_h0_0, f_h0_1, f_h0_2, f_h0_3, f_h0_4, f_h0_5, .ref hd, f_h0_7, .ref hf, f_h0_9, f_h0_10])), (aW, .inr (10, [f_aW_0, .ref aC, f_aW_2, f_aW_3, f_aW_4, f_aW_5, f_aW_6])), (aC, .inr (1, [f_aC_0, f_aC_1, .int 0])), (hd, .inl (cs 0, 6, .inl (upd g (nI k).toNatClampNeg (nI i)))), (hf, .inl (cs 0, 448, .inl ff))] H := hP
      have hD : va_D A [(h0, .inr (9, [f_h0_0, f_h0_1, f_h0_2, f_h0_3, f_h0_4, f_h0_5, .ref hd, f_h0_7, .ref hf, f_h0_9, f_h0_10])), (aW, .inr (10, [f_aW_0, .ref aC, f_aW_2, f_aW_3, f_aW_4, f_aW_5, f_aW_6])), (aC, .inr (1, [f_aC_0, f_aC_1, .int 0])), (hd, .inl (cs 0, 6, .inl (upd g (nI k).toNatClampNeg (nI i)))), (hf, .inl (cs 0, 448, .inl ff))] := hD
      refine lv_iinc (v := ((nI k) + 1)) (lv' := [(5, .int ((nI k) + 1)), (0, .ref h0), (1, .ref aW), (2, .ref aA), (3, .long a), (6, .int (nI i))]) hx hb dX9_share_40 hl (k := 4) rfl (by first | rfl | decide) (by decide) rfl (fun ls hl => ?_)
      refine lv_iinc (v := ((nI i) + 1)) (lv' := [(6, .int ((nI i) + 1)), (5, .int ((nI k) + 1)), (0, .ref h0), (1, .ref aW), (2, .ref aA), (3, .long a)]) hx hb dX9_share_43 hl (k := 5) rfl (by first | rfl | decide) (by decide) rfl (fun ls hl => ?_)
      refine lv_goto (tgt := 6) hx hb dX9_share_46 (by decide) ?_
      rw [nI_1, nI_1] at hl
      exact ih (i + 1) (by omega) (k + 1) ((upd g (nI k).toNatClampNeg (nI i))) H locs ls (by omega) (fun e => absurd e (by omega)) (hP.pick (is := [0, 1, 2, 3, 4]) rfl) (hD.sub [0, 1, 2, 3, 4] rfl rfl) hS (lv_sub hl [2, 3, 4, 5, 1, 0] rfl)

def sp_X9_share_n : Int32 := 0
set_option maxHeartbeats 1000000 in
set_option maxRecDepth 100000 in
theorem c_X9_share_n (l : Launch) (G : va_G) (cs : Nat → ClassId) (h0 : Nat) (aW : Nat) (aA : Nat) (a : Int64) (f_h0_0 : Value) (f_h0_1 : Value) (f_h0_2 : Value) (f_h0_3 : Value) (f_h0_4 : Value) (f_h0_5 : Value) (hd : Nat) (f_h0_7 : Value) (hf : Nat) (f_h0_9 : Value) (f_h0_10 : Value) (f_aW_0 : Value) (aC : Nat) (f_aW_2 : Value) (f_aW_3 : Value) (f_aW_4 : Value) (f_aW_5 : Value) (f_aW_6 : Value) (f_aC_0 : Value) (f_aC_1 : Value) (df : Nat → Int32) (ff : Nat → Int32) (sz : Nat) (hc0 : ¬ a = 0) (hr0 : rng a) : Met l yX9_share (Cond.code yX9_share cX9_share 10 (some .boolean) :: gW) ({ frames := 1, cells := 0, slots := 0, locals := 26 }) (va_Pc [.ref h0, .ref aW, .ref aA, .long a] (Pre G cs [(h0, .inr (9, [f_h0_0, f_h0_1, f_h0_2, f_h0_3, f_h0_4, f_h0_5, .ref hd, f_h0_7, .ref hf, f_h0_9, f_h0_10])), (aW, .inr (10, [f_aW_0, .ref aC, f_aW_2, f_aW_3, f_aW_4, f_aW_5, f_aW_6])), (aC, .inr (1, [f_aC_0, f_aC_1, .int 0])), (hd, .inl (cs 0, 6, .inl df)), (hf, .inl (cs 0, 448, .inl ff))] sz)) (va_Qi (fun r (u : Unit) => r = sp_X9_share_n ∧ narrow .boolean (.int r) = .int r) (fun (u : Unit) t => Aft G cs (va_A [(h0, .inr (9, [f_h0_0, f_h0_1, f_h0_2, f_h0_3, f_h0_4, f_h0_5, .ref hd, f_h0_7, .ref hf, f_h0_9, f_h0_10])), (aW, .inr (10, [f_aW_0, .ref aC, f_aW_2, f_aW_3, f_aW_4, f_aW_5, f_aW_6])), (aC, .inr (1, [f_aC_0, f_aC_1, .int 0])), (hd, .inl (cs 0, 6, .inl df)), (hf, .inl (cs 0, 448, .inl ff))] sz) [] t) (va_A [(h0, .inr (9, [f_h0_0, f_h0_1, f_h0_2, f_h0_3, f_h0_4, f_h0_5, .ref hd, f_h0_7, .ref hf, f_h0_9, f_h0_10])), (aW, .inr (10, [f_aW_0, .ref aC, f_aW_2, f_aW_3, f_aW_4, f_aW_5, f_aW_6])), (aC, .inr (1, [f_aC_0, f_aC_1, .int 0])), (hd, .inl (cs 0, 6, .inl df)), (hf, .inl (cs 0, 448, .inl ff))] sz)) 0 0 (va_A [(h0, .inr (9, [f_h0_0, f_h0_1, f_h0_2, f_h0_3, f_h0_4, f_h0_5, .ref hd, f_h0_7, .ref hf, f_h0_9, f_h0_10])), (aW, .inr (10, [f_aW_0, .ref aC, f_aW_2, f_aW_3, f_aW_4, f_aW_5, f_aW_6])), (aC, .inr (1, [f_aC_0, f_aC_1, .int 0])), (hd, .inl (cs 0, 6, .inl df)), (hf, .inl (cs 0, 448, .inl ff))] sz) := by
  refine Met.ofW (cc := cX9_share) (maxL := 10) (ret := (some .boolean)) (by decide) rfl ?_
  intro p e s m args below meth c s₁ B hml hv
  obtain ⟨rfl, hsz, hP, hK, hD0, hN⟩ := hv
  have hx := B.exec
  have hb := B.bytes
  have hr := B.returns
  have hts := atoms_spec (ws := Cond.code yX9_share cX9_share 10 (some .boolean) :: gW) B.pre
  have htl : ∀ w ∈ gW, w.before _ s = true := fun w h => hts w (List.mem_cons_of_mem _ h)
  have hown : s.vm.findClass RX9 = some m.cls := findClass_of_methodNamed B.named
  have hlocks := B.notSynchronized
  subst hsz
  have hD := hD0.self (sz := s.heap.size)
  generalize hAe : va_A [(h0, .inr (9, [f_h0_0, f_h0_1, f_h0_2, f_h0_3, f_h0_4, f_h0_5, .ref hd, f_h0_7, .ref hf, f_h0_9, f_h0_10])), (aW, .inr (10, [f_aW_0, .ref aC, f_aW_2, f_aW_3, f_aW_4, f_aW_5, f_aW_6])), (aC, .inr (1, [f_aC_0, f_aC_1, .int 0])), (hd, .inl (cs 0, 6, .inl df)), (hf, .inl (cs 0, 448, .inl ff))] s.heap.size = A at hD ⊢
  have hA : ∀ q : Nat, s.heap.size ≤ q → A q := fun q h => by rw [← hAe]; exact Or.inr h
  have hS : va_S A s.heap s.heap [] := va_S.rf
  have hl := lv_entry ([.ref h0, .ref aW, .ref aA, .long a]) (n := 10) (Nat.le_of_ble_eq_true rfl)
  rw [lg_entry_eq]
  generalize (lg_sl ([.ref h0, .ref aW, .ref aA, .long a]) ++ List.replicate (10 - (lg_sl ([.ref h0, .ref aW, .ref aA, .long a])).length) Slot.unset).toArray = ls at hl ⊢
  have hl : lv_has ls 10 [(0, .ref h0), (1, .ref aW), (2, .ref aA), (3, .long a)] := hl
  refine lv_iconst (v := 0) hx hb dX9_share_0 (by decide) ?_
  refine lv_istore (lv' := [(5, .int 0), (0, .ref h0), (1, .ref aW), (2, .ref aA), (3, .long a)]) hx hb dX9_share_1 hl (by decide) rfl (fun ls hl => ?_)
  refine lv_iconst (v := 0) hx hb dX9_share_3 (by decide) ?_
  refine lv_istore (lv' := [(6, .int 0), (5, .int 0), (0, .ref h0), (1, .ref aW), (2, .ref aA), (3, .long a)]) hx hb dX9_share_4 hl (by decide) rfl (fun ls hl => ?_)
  refine lp_share l G cs h0 aW aA a f_h0_0 f_h0_1 f_h0_2 f_h0_3 f_h0_4 f_h0_5 hd f_h0_7 hf f_h0_9 f_h0_10 f_aW_0 aC f_aW_2 f_aW_3 f_aW_4 f_aW_5 f_aW_6 f_aC_0 f_aC_1 df ff hc0 hr0 hx hb hml hown htl hN hK hA (fun k g H locs ls hk1 hk6 hP hD hS hl => ?_) 40 0 rfl 0 (df) _ _ _ (Nat.zero_le _) (fun _ j hj => absurd hj (Nat.not_lt_zero _)) (hP.pick (is := [0, 1, 2, 3, 4]) rfl) (hD.sub [0, 1, 2, 3, 4] rfl rfl) hS (lv_sub hl [2, 3, 4, 5, 1, 0] rfl)
  obtain rfl | rfl | rfl | rfl | rfl | rfl : k = 1 ∨ k = 2 ∨ k = 3 ∨ k = 4 ∨ k = 5 ∨ k = 6 := by omega
  · refine lv_aload_n hx hb dX9_share_49 rfl (lv_at hl 0 rfl) ?_
    refine lv_aload_n hx hb dX9_share_50 rfl (lv_at hl 1 rfl) ?_
    refine lv_aload_n hx hb dX9_share_51 rfl (lv_at hl 2 rfl) ?_
    refine lv_iload hx hb dX9_share_52 (lv_at hl 4 rfl) ?_
    refine va_csv (mkVr (rest := []) ⟨hx, hb, hml, hown, htl⟩ hN hK hP (c_X9_priceAll l G cs h0 aW aA (nI 1) f_h0_0 f_h0_1 f_h0_2 f_h0_3 f_h0_4 f_h0_5 (.ref hd) f_h0_7 (.ref hf) f_h0_9 f_h0_10 f_aW_0 aC f_aW_2 f_aW_3 f_aW_4 f_aW_5 f_aW_6 f_aC_0 f_aC_1) [0, 1, 2] rfl 0 9 rfl rfl (cV 3 htl lk_RX9_73 mI_X9_priceAll mS_X9_priceAll mN_RX9 mC_X9_priceAll ok_X9_priceAll rfl rfl ⟨(Nat.le_of_ble_eq_true rfl), (Nat.le_of_ble_eq_true rfl)⟩) rfl hl.1 rfl (Nat.le_of_ble_eq_true rfl) dX9_share_54 ⟨(Nat.le_of_ble_eq_true rfl), (Nat.le_of_ble_eq_true rfl)⟩) (fun _ => ?_)
    refine lv_aload_n hx hb dX9_share_57 rfl (lv_at hl 1 rfl) ?_
    refine va_get (ci := 10) (v := .ref aC) (C := RX10) (T := TX10) (N := 7) hx hb htl inX10 hown hK hP 1 rfl rfl 1 (by decide) (htl _ fl_RX9_77) (fun _ h9 => h9) rfl dX9_share_58 ?_
    refine va_get (ci := 1) (v := .int 0) (C := RX1) (T := TX1) (N := 3) hx hb htl inX1 hown hK hP 2 rfl rfl 2 (by decide) (htl _ fl_RX9_83) (fun _ h9 => h9) rfl dX9_share_61 ?_
    refine lv_istore (lv' := [(6, .int 0), (0, .ref h0), (1, .ref aW), (2, .ref aA), (3, .long a), (5, .int (nI 1))]) hx hb dX9_share_64 hl (by decide) rfl (fun ls hl => ?_)
    refine lv_iconst (v := 1) hx hb dX9_share_66 (by decide) ?_
    refine lv_iload hx hb dX9_share_67 (lv_at hl 5 rfl) ?_
    refine lv_ishl hx hb dX9_share_69 ?_
    refine lv_topi (fun xv ex => ?_)
    obtain rfl : xv = 2 := ex.trans (by first | rfl | decide)
    refine lv_iconst (v := 1) hx hb dX9_share_70 (by decide) ?_
    refine lv_isub hx hb dX9_share_71 ?_
    refine lv_topi (fun xv ex => ?_)
    obtain rfl : xv = 1 := ex.trans (by first | rfl | decide)
    refine lv_istore (lv' := [(7, .int 1), (6, .int 0), (0, .ref h0), (1, .ref aW), (2, .ref aA), (3, .long a), (5, .int (nI 1))]) hx hb dX9_share_72 hl (by decide) rfl (fun ls hl => ?_)
    refine lv_iconst (v := 0) hx hb dX9_share_74 (by decide) ?_
    refine lv_istore (lv' := [(8, .int 0), (7, .int 1), (6, .int 0), (0, .ref h0), (1, .ref aW), (2, .ref aA), (3, .long a), (5, .int (nI 1))]) hx hb dX9_share_75 hl (by decide) rfl (fun ls hl => ?_)
    refine lv_iload hx hb dX9_share_77 (lv_at hl 0 rfl) ?_
    refine lv_iload hx hb dX9_share_79 (lv_at hl 1 rfl) ?_
    refine lv_icmp_gt (tgt := 114) hx hb dX9_share_81 (by decide) (fun h => absurd h (by decide)) (fun _ => ?_)
    refine lv_aload_n hx hb dX9_share_84 rfl (lv_at hl 3 rfl) ?_
    refine va_get (ci := 9) (v := .ref hf) (C := RX9) (T := TX9) (N := 11) hx hb htl inX9 hown hK hP 0 rfl rfl 8 (by decide) (htl _ fl_RX9_31) (fun _ h9 => h9) rfl dX9_share_85 ?_
    refine lv_iload hx hb dX9_share_88 (lv_at hl 2 rfl) ?_
    refine lv_bipush (v := 64) hx hb dX9_share_90 (by decide) ?_
    refine lv_imul hx hb dX9_share_92 ?_
    refine lv_topi (fun xv ex => ?_)
    obtain rfl : xv = 0 := ex.trans (by first | rfl | decide)
    refine lv_iload hx hb dX9_share_93 (lv_at hl 0 rfl) ?_
    refine lv_iadd hx hb dX9_share_95 ?_
    refine lv_topi (fun xv ex => ?_)
    obtain rfl : xv = 0 := ex.trans (by first | rfl | decide)
    refine lv_iload hx hb dX9_share_96 (lv_at hl 0 rfl) ?_
    refine lv_if_ne (tgt := 105) hx hb dX9_share_98 (by decide) (fun h => absurd (by decide) h) (fun _ => ?_)
    refine lv_iconst (v := 0) hx hb dX9_share_101 (by decide) ?_
    refine lv_goto (tgt := 107) hx hb dX9_share_102 (by decide) ?_
    refine va_iast hx hb hK hP hD hS 4 0 rfl rfl (by unfold vp_in; decide) dX9_share_107 (fun H locs hP hD hS => ?_)
    have hP : va_P G vwCl [(h0, .inr (9, [f_h0_0, f_h0_1, f_h0_2, f_h0_3, f_h0_4, f_h0_5, .ref hd, f_h0_7, .ref hf, f_h0_9, f_h0_10])), (aW, .inr (10, [f_aW_0, .ref aC, f_aW_2, f_aW_3, f_aW_4, f_aW_5, f_aW_6])), (aC, .inr (1, [f_aC_0, f_aC_1, .int 0])), (hd, .inl (cs 0, 6, .inl g)), (hf, .inl (cs 0, 448, .inl (upd ff 0 0)))] H := hP
    have hD : va_D A [(h0, .inr (9, [f_h0_0, f_h0_1, f_h0_2, f_h0_3, f_h0_4, f_h0_5, .ref hd, f_h0_7, .ref hf, f_h0_9, f_h0_10])), (aW, .inr (10, [f_aW_0, .ref aC, f_aW_2, f_aW_3, f_aW_4, f_aW_5, f_aW_6])), (aC, .inr (1, [f_aC_0, f_aC_1, .int 0])), (hd, .inl (cs 0, 6, .inl g)), (hf, .inl (cs 0, 448, .inl (upd ff 0 0)))] := hD
    refine lv_iinc (v := 1) (lv' := [(8, .int 1), (7, .int 1), (6, .int 0), (0, .ref h0), (1, .ref aW), (2, .ref aA), (3, .long a), (5, .int (nI 1))]) hx hb dX9_share_108 hl (k := 0) rfl (by first | rfl | decide) (by decide) rfl (fun ls hl => ?_)
    refine lv_goto (tgt := 77) hx hb dX9_share_111 (by decide) ?_
    generalize (upd ff 0 0) = gf_1 at hP hD
    refine lv_iload hx hb dX9_share_77 (lv_at hl 0 rfl) ?_
    refine lv_iload hx hb dX9_share_79 (lv_at hl 1 rfl) ?_
    refine lv_icmp_gt (tgt := 114) hx hb dX9_share_81 (by decide) (fun h => absurd h (by decide)) (fun _ => ?_)
    refine lv_aload_n hx hb dX9_share_84 rfl (lv_at hl 3 rfl) ?_
    refine va_get (ci := 9) (v := .ref hf) (C := RX9) (T := TX9) (N := 11) hx hb htl inX9 hown hK hP 0 rfl rfl 8 (by decide) (htl _ fl_RX9_31) (fun _ h9 => h9) rfl dX9_share_85 ?_
    refine lv_iload hx hb dX9_share_88 (lv_at hl 2 rfl) ?_
    refine lv_bipush (v := 64) hx hb dX9_share_90 (by decide) ?_
    refine lv_imul hx hb dX9_share_92 ?_
    refine lv_topi (fun xv ex => ?_)
    obtain rfl : xv = 0 := ex.trans (by first | rfl | decide)
    refine lv_iload hx hb dX9_share_93 (lv_at hl 0 rfl) ?_
    refine lv_iadd hx hb dX9_share_95 ?_
    refine lv_topi (fun xv ex => ?_)
    obtain rfl : xv = 1 := ex.trans (by first | rfl | decide)
    refine lv_iload hx hb dX9_share_96 (lv_at hl 0 rfl) ?_
    refine lv_if_ne (tgt := 105) hx hb dX9_share_98 (by decide) (fun _ => ?_) (fun h => absurd h (by decide))
    refine lv_ldc hx hb hown (htl _ ct_RX9_68) dX9_share_105 ?_
    refine va_iast hx hb hK hP hD hS 4 0 rfl rfl (by unfold vp_in; decide) dX9_share_107 (fun H locs hP hD hS => ?_)
    have hP : va_P G vwCl [(h0, .inr (9, [f_h0_0, f_h0_1, f_h0_2, f_h0_3, f_h0_4, f_h0_5, .ref hd, f_h0_7, .ref hf, f_h0_9, f_h0_10])), (aW, .inr (10, [f_aW_0, .ref aC, f_aW_2, f_aW_3, f_aW_4, f_aW_5, f_aW_6])), (aC, .inr (1, [f_aC_0, f_aC_1, .int 0])), (hd, .inl (cs 0, 6, .inl g)), (hf, .inl (cs 0, 448, .inl (upd gf_1 1 1000000)))] H := hP
    have hD : va_D A [(h0, .inr (9, [f_h0_0, f_h0_1, f_h0_2, f_h0_3, f_h0_4, f_h0_5, .ref hd, f_h0_7, .ref hf, f_h0_9, f_h0_10])), (aW, .inr (10, [f_aW_0, .ref aC, f_aW_2, f_aW_3, f_aW_4, f_aW_5, f_aW_6])), (aC, .inr (1, [f_aC_0, f_aC_1, .int 0])), (hd, .inl (cs 0, 6, .inl g)), (hf, .inl (cs 0, 448, .inl (upd gf_1 1 1000000)))] := hD
    refine lv_iinc (v := 2) (lv' := [(8, .int 2), (7, .int 1), (6, .int 0), (0, .ref h0), (1, .ref aW), (2, .ref aA), (3, .long a), (5, .int (nI 1))]) hx hb dX9_share_108 hl (k := 0) rfl (by first | rfl | decide) (by decide) rfl (fun ls hl => ?_)
    refine lv_goto (tgt := 77) hx hb dX9_share_111 (by decide) ?_
    refine lv_iload hx hb dX9_share_77 (lv_at hl 0 rfl) ?_
    refine lv_iload hx hb dX9_share_79 (lv_at hl 1 rfl) ?_
    refine lv_icmp_gt (tgt := 114) hx hb dX9_share_81 (by decide) (fun _ => ?_) (fun h => absurd (by decide) h)
    refine lv_iload hx hb dX9_share_114 (lv_at hl 2 rfl) ?_
    refine lv_iconst (v := 1) hx hb dX9_share_116 (by decide) ?_
    refine lv_isub hx hb dX9_share_117 ?_
    refine lv_topi (fun xv ex => ?_)
    obtain rfl : xv = (-1) := ex.trans (by first | rfl | decide)
    refine lv_istore (lv' := [(8, .int (-1)), (7, .int 1), (6, .int 0), (0, .ref h0), (1, .ref aW), (2, .ref aA), (3, .long a), (5, .int (nI 1))]) hx hb dX9_share_118 hl (by decide) rfl (fun ls hl => ?_)
    refine lv_iload hx hb dX9_share_120 (lv_at hl 0 rfl) ?_
    refine lv_if_lt (tgt := 170) hx hb dX9_share_122 (by decide) (fun _ => ?_) (fun h => absurd (by decide) h)
    refine lv_aload_n hx hb dX9_share_170 rfl (lv_at hl 3 rfl) ?_
    refine lv_aload_n hx hb dX9_share_171 rfl (lv_at hl 3 rfl) ?_
    refine va_get (ci := 9) (v := .ref hf) (C := RX9) (T := TX9) (N := 11) hx hb htl inX9 hown hK hP 0 rfl rfl 8 (by decide) (htl _ fl_RX9_31) (fun _ h9 => h9) rfl dX9_share_172 ?_
    refine lv_iload hx hb dX9_share_175 (lv_at hl 1 rfl) ?_
    refine va_iald hx hb hK hP 4 0 rfl rfl (by unfold vp_in; decide) dX9_share_177 ?_
    refine lv_topi (fun xv ex => ?_)
    obtain rfl : xv = 1000000 := ex.trans (by first | exact pk_us | rfl | decide)
    refine va_put (ci := 9) (v := .int 1000000) (ty := .int) (C := RX9) (T := TX9) (N := 11) hx hb htl inX9 tyX9 tyX9_ok nmX9 hown hK hP hD hS 0 rfl rfl 5 (by decide) (htl _ fl_RX9_92) (fun _ h9 => h9) rfl (by decide +kernel) (by first | rfl | decide) (by first | rfl | decide) (Nat.le_of_ble_eq_true rfl) dX9_share_178 (fun H locs hP hD hS => ?_)
    have hP : va_P G vwCl [(h0, .inr (9, [f_h0_0, f_h0_1, f_h0_2, f_h0_3, f_h0_4, .int 1000000, .ref hd, f_h0_7, .ref hf, f_h0_9, f_h0_10])), (aW, .inr (10, [f_aW_0, .ref aC, f_aW_2, f_aW_3, f_aW_4, f_aW_5, f_aW_6])), (aC, .inr (1, [f_aC_0, f_aC_1, .int 0])), (hd, .inl (cs 0, 6, .inl g)), (hf, .inl (cs 0, 448, .inl (upd gf_1 1 1000000)))] H := hP
    have hD : va_D A [(h0, .inr (9, [f_h0_0, f_h0_1, f_h0_2, f_h0_3, f_h0_4, .int 1000000, .ref hd, f_h0_7, .ref hf, f_h0_9, f_h0_10])), (aW, .inr (10, [f_aW_0, .ref aC, f_aW_2, f_aW_3, f_aW_4, f_aW_5, f_aW_6])), (aC, .inr (1, [f_aC_0, f_aC_1, .int 0])), (hd, .inl (cs 0, 6, .inl g)), (hf, .inl (cs 0, 448, .inl (upd gf_1 1 1000000)))] := hD
    refine lv_aload_n hx hb dX9_share_181 rfl (lv_at hl 3 rfl) ?_
    refine va_get (ci := 9) (v := .int 1000000) (C := RX9) (T := TX9) (N := 11) hx hb htl inX9 hown hK hP 0 rfl rfl 5 (by decide) (htl _ fl_RX9_92) (fun _ h9 => h9) rfl dX9_share_182 ?_
    refine lv_ldc hx hb hown (htl _ ct_RX9_68) dX9_share_185 ?_
    refine lv_icmp_lt (tgt := 192) hx hb dX9_share_187 (by decide) (fun h => absurd h (by decide)) (fun _ => ?_)
    refine lv_iconst (v := 0) hx hb dX9_share_190 (by decide) ?_
    exact W.zret (ty := .boolean) (v := 0) hx hb hr (by decide) (fun t ht hW => ⟨⟨0, (), rfl, ⟨rfl, (by decide)⟩, ⟨fun k q h => by simp at h, va_K.moved hW.alike hK, ⟨fun i j p q h => by simp at h, fun k q h => by simp at h⟩⟩⟩, hS.F ht⟩) hS.2.2 dX9_share_191
  · refine lv_aload_n hx hb dX9_share_49 rfl (lv_at hl 0 rfl) ?_
    refine lv_aload_n hx hb dX9_share_50 rfl (lv_at hl 1 rfl) ?_
    refine lv_aload_n hx hb dX9_share_51 rfl (lv_at hl 2 rfl) ?_
    refine lv_iload hx hb dX9_share_52 (lv_at hl 4 rfl) ?_
    refine va_csv (mkVr (rest := []) ⟨hx, hb, hml, hown, htl⟩ hN hK hP (c_X9_priceAll l G cs h0 aW aA (nI 2) f_h0_0 f_h0_1 f_h0_2 f_h0_3 f_h0_4 f_h0_5 (.ref hd) f_h0_7 (.ref hf) f_h0_9 f_h0_10 f_aW_0 aC f_aW_2 f_aW_3 f_aW_4 f_aW_5 f_aW_6 f_aC_0 f_aC_1) [0, 1, 2] rfl 0 9 rfl rfl (cV 3 htl lk_RX9_73 mI_X9_priceAll mS_X9_priceAll mN_RX9 mC_X9_priceAll ok_X9_priceAll rfl rfl ⟨(Nat.le_of_ble_eq_true rfl), (Nat.le_of_ble_eq_true rfl)⟩) rfl hl.1 rfl (Nat.le_of_ble_eq_true rfl) dX9_share_54 ⟨(Nat.le_of_ble_eq_true rfl), (Nat.le_of_ble_eq_true rfl)⟩) (fun _ => ?_)
    refine lv_aload_n hx hb dX9_share_57 rfl (lv_at hl 1 rfl) ?_
    refine va_get (ci := 10) (v := .ref aC) (C := RX10) (T := TX10) (N := 7) hx hb htl inX10 hown hK hP 1 rfl rfl 1 (by decide) (htl _ fl_RX9_77) (fun _ h9 => h9) rfl dX9_share_58 ?_
    refine va_get (ci := 1) (v := .int 0) (C := RX1) (T := TX1) (N := 3) hx hb htl inX1 hown hK hP 2 rfl rfl 2 (by decide) (htl _ fl_RX9_83) (fun _ h9 => h9) rfl dX9_share_61 ?_
    refine lv_istore (lv' := [(6, .int 0), (0, .ref h0), (1, .ref aW), (2, .ref aA), (3, .long a), (5, .int (nI 2))]) hx hb dX9_share_64 hl (by decide) rfl (fun ls hl => ?_)
    refine lv_iconst (v := 1) hx hb dX9_share_66 (by decide) ?_
    refine lv_iload hx hb dX9_share_67 (lv_at hl 5 rfl) ?_
    refine lv_ishl hx hb dX9_share_69 ?_
    refine lv_topi (fun xv ex => ?_)
    obtain rfl : xv = 4 := ex.trans (by first | rfl | decide)
    refine lv_iconst (v := 1) hx hb dX9_share_70 (by decide) ?_
    refine lv_isub hx hb dX9_share_71 ?_
    refine lv_topi (fun xv ex => ?_)
    obtain rfl : xv = 3 := ex.trans (by first | rfl | decide)
    refine lv_istore (lv' := [(7, .int 3), (6, .int 0), (0, .ref h0), (1, .ref aW), (2, .ref aA), (3, .long a), (5, .int (nI 2))]) hx hb dX9_share_72 hl (by decide) rfl (fun ls hl => ?_)
    refine lv_iconst (v := 0) hx hb dX9_share_74 (by decide) ?_
    refine lv_istore (lv' := [(8, .int 0), (7, .int 3), (6, .int 0), (0, .ref h0), (1, .ref aW), (2, .ref aA), (3, .long a), (5, .int (nI 2))]) hx hb dX9_share_75 hl (by decide) rfl (fun ls hl => ?_)
    refine lv_iload hx hb dX9_share_77 (lv_at hl 0 rfl) ?_
    refine lv_iload hx hb dX9_share_79 (lv_at hl 1 rfl) ?_
    refine lv_icmp_gt (tgt := 114) hx hb dX9_share_81 (by decide) (fun h => absurd h (by decide)) (fun _ => ?_)
    refine lv_aload_n hx hb dX9_share_84 rfl (lv_at hl 3 rfl) ?_
    refine va_get (ci := 9) (v := .ref hf) (C := RX9) (T := TX9) (N := 11) hx hb htl inX9 hown hK hP 0 rfl rfl 8 (by decide) (htl _ fl_RX9_31) (fun _ h9 => h9) rfl dX9_share_85 ?_
    refine lv_iload hx hb dX9_share_88 (lv_at hl 2 rfl) ?_
    refine lv_bipush (v := 64) hx hb dX9_share_90 (by decide) ?_
    refine lv_imul hx hb dX9_share_92 ?_
    refine lv_topi (fun xv ex => ?_)
    obtain rfl : xv = 0 := ex.trans (by first | rfl | decide)
    refine lv_iload hx hb dX9_share_93 (lv_at hl 0 rfl) ?_
    refine lv_iadd hx hb dX9_share_95 ?_
    refine lv_topi (fun xv ex => ?_)
    obtain rfl : xv = 0 := ex.trans (by first | rfl | decide)
    refine lv_iload hx hb dX9_share_96 (lv_at hl 0 rfl) ?_
    refine lv_if_ne (tgt := 105) hx hb dX9_share_98 (by decide) (fun h => absurd (by decide) h) (fun _ => ?_)
    refine lv_iconst (v := 0) hx hb dX9_share_101 (by decide) ?_
    refine lv_goto (tgt := 107) hx hb dX9_share_102 (by decide) ?_
    refine va_iast hx hb hK hP hD hS 4 0 rfl rfl (by unfold vp_in; decide) dX9_share_107 (fun H locs hP hD hS => ?_)
    have hP : va_P G vwCl [(h0, .inr (9, [f_h0_0, f_h0_1, f_h0_2, f_h0_3, f_h0_4, f_h0_5, .ref hd, f_h0_7, .ref hf, f_h0_9, f_h0_10])), (aW, .inr (10, [f_aW_0, .ref aC, f_aW_2, f_aW_3, f_aW_4, f_aW_5, f_aW_6])), (aC, .inr (1, [f_aC_0, f_aC_1, .int 0])), (hd, .inl (cs 0, 6, .inl g)), (hf, .inl (cs 0, 448, .inl (upd ff 0 0)))] H := hP
    have hD : va_D A [(h0, .inr (9, [f_h0_0, f_h0_1, f_h0_2, f_h0_3, f_h0_4, f_h0_5, .ref hd, f_h0_7, .ref hf, f_h0_9, f_h0_10])), (aW, .inr (10, [f_aW_0, .ref aC, f_aW_2, f_aW_3, f_aW_4, f_aW_5, f_aW_6])), (aC, .inr (1, [f_aC_0, f_aC_1, .int 0])), (hd, .inl (cs 0, 6, .inl g)), (hf, .inl (cs 0, 448, .inl (upd ff 0 0)))] := hD
    refine lv_iinc (v := 1) (lv' := [(8, .int 1), (7, .int 3), (6, .int 0), (0, .ref h0), (1, .ref aW), (2, .ref aA), (3, .long a), (5, .int (nI 2))]) hx hb dX9_share_108 hl (k := 0) rfl (by first | rfl | decide) (by decide) rfl (fun ls hl => ?_)
    refine lv_goto (tgt := 77) hx hb dX9_share_111 (by decide) ?_
    generalize (upd ff 0 0) = gf_2 at hP hD
    refine lv_iload hx hb dX9_share_77 (lv_at hl 0 rfl) ?_
    refine lv_iload hx hb dX9_share_79 (lv_at hl 1 rfl) ?_
    refine lv_icmp_gt (tgt := 114) hx hb dX9_share_81 (by decide) (fun h => absurd h (by decide)) (fun _ => ?_)
    refine lv_aload_n hx hb dX9_share_84 rfl (lv_at hl 3 rfl) ?_
    refine va_get (ci := 9) (v := .ref hf) (C := RX9) (T := TX9) (N := 11) hx hb htl inX9 hown hK hP 0 rfl rfl 8 (by decide) (htl _ fl_RX9_31) (fun _ h9 => h9) rfl dX9_share_85 ?_
    refine lv_iload hx hb dX9_share_88 (lv_at hl 2 rfl) ?_
    refine lv_bipush (v := 64) hx hb dX9_share_90 (by decide) ?_
    refine lv_imul hx hb dX9_share_92 ?_
    refine lv_topi (fun xv ex => ?_)
    obtain rfl : xv = 0 := ex.trans (by first | rfl | decide)
    refine lv_iload hx hb dX9_share_93 (lv_at hl 0 rfl) ?_
    refine lv_iadd hx hb dX9_share_95 ?_
    refine lv_topi (fun xv ex => ?_)
    obtain rfl : xv = 1 := ex.trans (by first | rfl | decide)
    refine lv_iload hx hb dX9_share_96 (lv_at hl 0 rfl) ?_
    refine lv_if_ne (tgt := 105) hx hb dX9_share_98 (by decide) (fun _ => ?_) (fun h => absurd h (by decide))
    refine lv_ldc hx hb hown (htl _ ct_RX9_68) dX9_share_105 ?_
    refine va_iast hx hb hK hP hD hS 4 0 rfl rfl (by unfold vp_in; decide) dX9_share_107 (fun H locs hP hD hS => ?_)
    have hP : va_P G vwCl [(h0, .inr (9, [f_h0_0, f_h0_1, f_h0_2, f_h0_3, f_h0_4, f_h0_5, .ref hd, f_h0_7, .ref hf, f_h0_9, f_h0_10])), (aW, .inr (10, [f_aW_0, .ref aC, f_aW_2, f_aW_3, f_aW_4, f_aW_5, f_aW_6])), (aC, .inr (1, [f_aC_0, f_aC_1, .int 0])), (hd, .inl (cs 0, 6, .inl g)), (hf, .inl (cs 0, 448, .inl (upd gf_2 1 1000000)))] H := hP
    have hD : va_D A [(h0, .inr (9, [f_h0_0, f_h0_1, f_h0_2, f_h0_3, f_h0_4, f_h0_5, .ref hd, f_h0_7, .ref hf, f_h0_9, f_h0_10])), (aW, .inr (10, [f_aW_0, .ref aC, f_aW_2, f_aW_3, f_aW_4, f_aW_5, f_aW_6])), (aC, .inr (1, [f_aC_0, f_aC_1, .int 0])), (hd, .inl (cs 0, 6, .inl g)), (hf, .inl (cs 0, 448, .inl (upd gf_2 1 1000000)))] := hD
    refine lv_iinc (v := 2) (lv' := [(8, .int 2), (7, .int 3), (6, .int 0), (0, .ref h0), (1, .ref aW), (2, .ref aA), (3, .long a), (5, .int (nI 2))]) hx hb dX9_share_108 hl (k := 0) rfl (by first | rfl | decide) (by decide) rfl (fun ls hl => ?_)
    refine lv_goto (tgt := 77) hx hb dX9_share_111 (by decide) ?_
    generalize (upd gf_2 1 1000000) = gf_3 at hP hD
    refine lv_iload hx hb dX9_share_77 (lv_at hl 0 rfl) ?_
    refine lv_iload hx hb dX9_share_79 (lv_at hl 1 rfl) ?_
    refine lv_icmp_gt (tgt := 114) hx hb dX9_share_81 (by decide) (fun h => absurd h (by decide)) (fun _ => ?_)
    refine lv_aload_n hx hb dX9_share_84 rfl (lv_at hl 3 rfl) ?_
    refine va_get (ci := 9) (v := .ref hf) (C := RX9) (T := TX9) (N := 11) hx hb htl inX9 hown hK hP 0 rfl rfl 8 (by decide) (htl _ fl_RX9_31) (fun _ h9 => h9) rfl dX9_share_85 ?_
    refine lv_iload hx hb dX9_share_88 (lv_at hl 2 rfl) ?_
    refine lv_bipush (v := 64) hx hb dX9_share_90 (by decide) ?_
    refine lv_imul hx hb dX9_share_92 ?_
    refine lv_topi (fun xv ex => ?_)
    obtain rfl : xv = 0 := ex.trans (by first | rfl | decide)
    refine lv_iload hx hb dX9_share_93 (lv_at hl 0 rfl) ?_
    refine lv_iadd hx hb dX9_share_95 ?_
    refine lv_topi (fun xv ex => ?_)
    obtain rfl : xv = 2 := ex.trans (by first | rfl | decide)
    refine lv_iload hx hb dX9_share_96 (lv_at hl 0 rfl) ?_
    refine lv_if_ne (tgt := 105) hx hb dX9_share_98 (by decide) (fun _ => ?_) (fun h => absurd h (by decide))
    refine lv_ldc hx hb hown (htl _ ct_RX9_68) dX9_share_105 ?_
    refine va_iast hx hb hK hP hD hS 4 0 rfl rfl (by unfold vp_in; decide) dX9_share_107 (fun H locs hP hD hS => ?_)
    have hP : va_P G vwCl [(h0, .inr (9, [f_h0_0, f_h0_1, f_h0_2, f_h0_3, f_h0_4, f_h0_5, .ref hd, f_h0_7, .ref hf, f_h0_9, f_h0_10])), (aW, .inr (10, [f_aW_0, .ref aC, f_aW_2, f_aW_3, f_aW_4, f_aW_5, f_aW_6])), (aC, .inr (1, [f_aC_0, f_aC_1, .int 0])), (hd, .inl (cs 0, 6, .inl g)), (hf, .inl (cs 0, 448, .inl (upd gf_3 2 1000000)))] H := hP
    have hD : va_D A [(h0, .inr (9, [f_h0_0, f_h0_1, f_h0_2, f_h0_3, f_h0_4, f_h0_5, .ref hd, f_h0_7, .ref hf, f_h0_9, f_h0_10])), (aW, .inr (10, [f_aW_0, .ref aC, f_aW_2, f_aW_3, f_aW_4, f_aW_5, f_aW_6])), (aC, .inr (1, [f_aC_0, f_aC_1, .int 0])), (hd, .inl (cs 0, 6, .inl g)), (hf, .inl (cs 0, 448, .inl (upd gf_3 2 1000000)))] := hD
    refine lv_iinc (v := 3) (lv' := [(8, .int 3), (7, .int 3), (6, .int 0), (0, .ref h0), (1, .ref aW), (2, .ref aA), (3, .long a), (5, .int (nI 2))]) hx hb dX9_share_108 hl (k := 0) rfl (by first | rfl | decide) (by decide) rfl (fun ls hl => ?_)
    refine lv_goto (tgt := 77) hx hb dX9_share_111 (by decide) ?_
    generalize (upd gf_3 2 1000000) = gf_4 at hP hD
    refine lv_iload hx hb dX9_share_77 (lv_at hl 0 rfl) ?_
    refine lv_iload hx hb dX9_share_79 (lv_at hl 1 rfl) ?_
    refine lv_icmp_gt (tgt := 114) hx hb dX9_share_81 (by decide) (fun h => absurd h (by decide)) (fun _ => ?_)
    refine lv_aload_n hx hb dX9_share_84 rfl (lv_at hl 3 rfl) ?_
    refine va_get (ci := 9) (v := .ref hf) (C := RX9) (T := TX9) (N := 11) hx hb htl inX9 hown hK hP 0 rfl rfl 8 (by decide) (htl _ fl_RX9_31) (fun _ h9 => h9) rfl dX9_share_85 ?_
    refine lv_iload hx hb dX9_share_88 (lv_at hl 2 rfl) ?_
    refine lv_bipush (v := 64) hx hb dX9_share_90 (by decide) ?_
    refine lv_imul hx hb dX9_share_92 ?_
    refine lv_topi (fun xv ex => ?_)
    obtain rfl : xv = 0 := ex.trans (by first | rfl | decide)
    refine lv_iload hx hb dX9_share_93 (lv_at hl 0 rfl) ?_
    refine lv_iadd hx hb dX9_share_95 ?_
    refine lv_topi (fun xv ex => ?_)
    obtain rfl : xv = 3 := ex.trans (by first | rfl | decide)
    refine lv_iload hx hb dX9_share_96 (lv_at hl 0 rfl) ?_
    refine lv_if_ne (tgt := 105) hx hb dX9_share_98 (by decide) (fun _ => ?_) (fun h => absurd h (by decide))
    refine lv_ldc hx hb hown (htl _ ct_RX9_68) dX9_share_105 ?_
    refine va_iast hx hb hK hP hD hS 4 0 rfl rfl (by unfold vp_in; decide) dX9_share_107 (fun H locs hP hD hS => ?_)
    have hP : va_P G vwCl [(h0, .inr (9, [f_h0_0, f_h0_1, f_h0_2, f_h0_3, f_h0_4, f_h0_5, .ref hd, f_h0_7, .ref hf, f_h0_9, f_h0_10])), (aW, .inr (10, [f_aW_0, .ref aC, f_aW_2, f_aW_3, f_aW_4, f_aW_5, f_aW_6])), (aC, .inr (1, [f_aC_0, f_aC_1, .int 0])), (hd, .inl (cs 0, 6, .inl g)), (hf, .inl (cs 0, 448, .inl (upd gf_4 3 1000000)))] H := hP
    have hD : va_D A [(h0, .inr (9, [f_h0_0, f_h0_1, f_h0_2, f_h0_3, f_h0_4, f_h0_5, .ref hd, f_h0_7, .ref hf, f_h0_9, f_h0_10])), (aW, .inr (10, [f_aW_0, .ref aC, f_aW_2, f_aW_3, f_aW_4, f_aW_5, f_aW_6])), (aC, .inr (1, [f_aC_0, f_aC_1, .int 0])), (hd, .inl (cs 0, 6, .inl g)), (hf, .inl (cs 0, 448, .inl (upd gf_4 3 1000000)))] := hD
    refine lv_iinc (v := 4) (lv' := [(8, .int 4), (7, .int 3), (6, .int 0), (0, .ref h0), (1, .ref aW), (2, .ref aA), (3, .long a), (5, .int (nI 2))]) hx hb dX9_share_108 hl (k := 0) rfl (by first | rfl | decide) (by decide) rfl (fun ls hl => ?_)
    refine lv_goto (tgt := 77) hx hb dX9_share_111 (by decide) ?_
    refine lv_iload hx hb dX9_share_77 (lv_at hl 0 rfl) ?_
    refine lv_iload hx hb dX9_share_79 (lv_at hl 1 rfl) ?_
    refine lv_icmp_gt (tgt := 114) hx hb dX9_share_81 (by decide) (fun _ => ?_) (fun h => absurd (by decide) h)
    refine lv_iload hx hb dX9_share_114 (lv_at hl 2 rfl) ?_
    refine lv_iconst (v := 1) hx hb dX9_share_116 (by decide) ?_
    refine lv_isub hx hb dX9_share_117 ?_
    refine lv_topi (fun xv ex => ?_)
    obtain rfl : xv = (-1) := ex.trans (by first | rfl | decide)
    refine lv_istore (lv' := [(8, .int (-1)), (7, .int 3), (6, .int 0), (0, .ref h0), (1, .ref aW), (2, .ref aA), (3, .long a), (5, .int (nI 2))]) hx hb dX9_share_118 hl (by decide) rfl (fun ls hl => ?_)
    refine lv_iload hx hb dX9_share_120 (lv_at hl 0 rfl) ?_
    refine lv_if_lt (tgt := 170) hx hb dX9_share_122 (by decide) (fun _ => ?_) (fun h => absurd (by decide) h)
    refine lv_aload_n hx hb dX9_share_170 rfl (lv_at hl 3 rfl) ?_
    refine lv_aload_n hx hb dX9_share_171 rfl (lv_at hl 3 rfl) ?_
    refine va_get (ci := 9) (v := .ref hf) (C := RX9) (T := TX9) (N := 11) hx hb htl inX9 hown hK hP 0 rfl rfl 8 (by decide) (htl _ fl_RX9_31) (fun _ h9 => h9) rfl dX9_share_172 ?_
    refine lv_iload hx hb dX9_share_175 (lv_at hl 1 rfl) ?_
    refine va_iald hx hb hK hP 4 0 rfl rfl (by unfold vp_in; decide) dX9_share_177 ?_
    refine lv_topi (fun xv ex => ?_)
    obtain rfl : xv = 1000000 := ex.trans (by first | exact pk_us | rfl | decide)
    refine va_put (ci := 9) (v := .int 1000000) (ty := .int) (C := RX9) (T := TX9) (N := 11) hx hb htl inX9 tyX9 tyX9_ok nmX9 hown hK hP hD hS 0 rfl rfl 5 (by decide) (htl _ fl_RX9_92) (fun _ h9 => h9) rfl (by decide +kernel) (by first | rfl | decide) (by first | rfl | decide) (Nat.le_of_ble_eq_true rfl) dX9_share_178 (fun H locs hP hD hS => ?_)
    have hP : va_P G vwCl [(h0, .inr (9, [f_h0_0, f_h0_1, f_h0_2, f_h0_3, f_h0_4, .int 1000000, .ref hd, f_h0_7, .ref hf, f_h0_9, f_h0_10])), (aW, .inr (10, [f_aW_0, .ref aC, f_aW_2, f_aW_3, f_aW_4, f_aW_5, f_aW_6])), (aC, .inr (1, [f_aC_0, f_aC_1, .int 0])), (hd, .inl (cs 0, 6, .inl g)), (hf, .inl (cs 0, 448, .inl (upd gf_4 3 1000000)))] H := hP
    have hD : va_D A [(h0, .inr (9, [f_h0_0, f_h0_1, f_h0_2, f_h0_3, f_h0_4, .int 1000000, .ref hd, f_h0_7, .ref hf, f_h0_9, f_h0_10])), (aW, .inr (10, [f_aW_0, .ref aC, f_aW_2, f_aW_3, f_aW_4, f_aW_5, f_aW_6])), (aC, .inr (1, [f_aC_0, f_aC_1, .int 0])), (hd, .inl (cs 0, 6, .inl g)), (hf, .inl (cs 0, 448, .inl (upd gf_4 3 1000000)))] := hD
    refine lv_aload_n hx hb dX9_share_181 rfl (lv_at hl 3 rfl) ?_
    refine va_get (ci := 9) (v := .int 1000000) (C := RX9) (T := TX9) (N := 11) hx hb htl inX9 hown hK hP 0 rfl rfl 5 (by decide) (htl _ fl_RX9_92) (fun _ h9 => h9) rfl dX9_share_182 ?_
    refine lv_ldc hx hb hown (htl _ ct_RX9_68) dX9_share_185 ?_
    refine lv_icmp_lt (tgt := 192) hx hb dX9_share_187 (by decide) (fun h => absurd h (by decide)) (fun _ => ?_)
    refine lv_iconst (v := 0) hx hb dX9_share_190 (by decide) ?_
    exact W.zret (ty := .boolean) (v := 0) hx hb hr (by decide) (fun t ht hW => ⟨⟨0, (), rfl, ⟨rfl, (by decide)⟩, ⟨fun k q h => by simp at h, va_K.moved hW.alike hK, ⟨fun i j p q h => by simp at h, fun k q h => by simp at h⟩⟩⟩, hS.F ht⟩) hS.2.2 dX9_share_191
  · refine lv_aload_n hx hb dX9_share_49 rfl (lv_at hl 0 rfl) ?_
    refine lv_aload_n hx hb dX9_share_50 rfl (lv_at hl 1 rfl) ?_
    refine lv_aload_n hx hb dX9_share_51 rfl (lv_at hl 2 rfl) ?_
    refine lv_iload hx hb dX9_share_52 (lv_at hl 4 rfl) ?_
    refine va_csv (mkVr (rest := []) ⟨hx, hb, hml, hown, htl⟩ hN hK hP (c_X9_priceAll l G cs h0 aW aA (nI 3) f_h0_0 f_h0_1 f_h0_2 f_h0_3 f_h0_4 f_h0_5 (.ref hd) f_h0_7 (.ref hf) f_h0_9 f_h0_10 f_aW_0 aC f_aW_2 f_aW_3 f_aW_4 f_aW_5 f_aW_6 f_aC_0 f_aC_1) [0, 1, 2] rfl 0 9 rfl rfl (cV 3 htl lk_RX9_73 mI_X9_priceAll mS_X9_priceAll mN_RX9 mC_X9_priceAll ok_X9_priceAll rfl rfl ⟨(Nat.le_of_ble_eq_true rfl), (Nat.le_of_ble_eq_true rfl)⟩) rfl hl.1 rfl (Nat.le_of_ble_eq_true rfl) dX9_share_54 ⟨(Nat.le_of_ble_eq_true rfl), (Nat.le_of_ble_eq_true rfl)⟩) (fun _ => ?_)
    refine lv_aload_n hx hb dX9_share_57 rfl (lv_at hl 1 rfl) ?_
    refine va_get (ci := 10) (v := .ref aC) (C := RX10) (T := TX10) (N := 7) hx hb htl inX10 hown hK hP 1 rfl rfl 1 (by decide) (htl _ fl_RX9_77) (fun _ h9 => h9) rfl dX9_share_58 ?_
    refine va_get (ci := 1) (v := .int 0) (C := RX1) (T := TX1) (N := 3) hx hb htl inX1 hown hK hP 2 rfl rfl 2 (by decide) (htl _ fl_RX9_83) (fun _ h9 => h9) rfl dX9_share_61 ?_
    refine lv_istore (lv' := [(6, .int 0), (0, .ref h0), (1, .ref aW), (2, .ref aA), (3, .long a), (5, .int (nI 3))]) hx hb dX9_share_64 hl (by decide) rfl (fun ls hl => ?_)
    refine lv_iconst (v := 1) hx hb dX9_share_66 (by decide) ?_
    refine lv_iload hx hb dX9_share_67 (lv_at hl 5 rfl) ?_
    refine lv_ishl hx hb dX9_share_69 ?_
    refine lv_topi (fun xv ex => ?_)
    obtain rfl : xv = 8 := ex.trans (by first | rfl | decide)
    refine lv_iconst (v := 1) hx hb dX9_share_70 (by decide) ?_
    refine lv_isub hx hb dX9_share_71 ?_
    refine lv_topi (fun xv ex => ?_)
    obtain rfl : xv = 7 := ex.trans (by first | rfl | decide)
    refine lv_istore (lv' := [(7, .int 7), (6, .int 0), (0, .ref h0), (1, .ref aW), (2, .ref aA), (3, .long a), (5, .int (nI 3))]) hx hb dX9_share_72 hl (by decide) rfl (fun ls hl => ?_)
    refine lv_iconst (v := 0) hx hb dX9_share_74 (by decide) ?_
    refine lv_istore (lv' := [(8, .int 0), (7, .int 7), (6, .int 0), (0, .ref h0), (1, .ref aW), (2, .ref aA), (3, .long a), (5, .int (nI 3))]) hx hb dX9_share_75 hl (by decide) rfl (fun ls hl => ?_)
    refine lv_iload hx hb dX9_share_77 (lv_at hl 0 rfl) ?_
    refine lv_iload hx hb dX9_share_79 (lv_at hl 1 rfl) ?_
    refine lv_icmp_gt (tgt := 114) hx hb dX9_share_81 (by decide) (fun h => absurd h (by decide)) (fun _ => ?_)
    refine lv_aload_n hx hb dX9_share_84 rfl (lv_at hl 3 rfl) ?_
    refine va_get (ci := 9) (v := .ref hf) (C := RX9) (T := TX9) (N := 11) hx hb htl inX9 hown hK hP 0 rfl rfl 8 (by decide) (htl _ fl_RX9_31) (fun _ h9 => h9) rfl dX9_share_85 ?_
    refine lv_iload hx hb dX9_share_88 (lv_at hl 2 rfl) ?_
    refine lv_bipush (v := 64) hx hb dX9_share_90 (by decide) ?_
    refine lv_imul hx hb dX9_share_92 ?_
    refine lv_topi (fun xv ex => ?_)
    obtain rfl : xv = 0 := ex.trans (by first | rfl | decide)
    refine lv_iload hx hb dX9_share_93 (lv_at hl 0 rfl) ?_
    refine lv_iadd hx hb dX9_share_95 ?_
    refine lv_topi (fun xv ex => ?_)
    obtain rfl : xv = 0 := ex.trans (by first | rfl | decide)
    refine lv_iload hx hb dX9_share_96 (lv_at hl 0 rfl) ?_
    refine lv_if_ne (tgt := 105) hx hb dX9_share_98 (by decide) (fun h => absurd (by decide) h) (fun _ => ?_)
    refine lv_iconst (v := 0) hx hb dX9_share_101 (by decide) ?_
    refine lv_goto (tgt := 107) hx hb dX9_share_102 (by decide) ?_
    refine va_iast hx hb hK hP hD hS 4 0 rfl rfl (by unfold vp_in; decide) dX9_share_107 (fun H locs hP hD hS => ?_)
    have hP : va_P G vwCl [(h0, .inr (9, [f_h0_0, f_h0_1, f_h0_2, f_h0_3, f_h0_4, f_h0_5, .ref hd, f_h0_7, .ref hf, f_h0_9, f_h0_10])), (aW, .inr (10, [f_aW_0, .ref aC, f_aW_2, f_aW_3, f_aW_4, f_aW_5, f_aW_6])), (aC, .inr (1, [f_aC_0, f_aC_1, .int 0])), (hd, .inl (cs 0, 6, .inl g)), (hf, .inl (cs 0, 448, .inl (upd ff 0 0)))] H := hP
    have hD : va_D A [(h0, .inr (9, [f_h0_0, f_h0_1, f_h0_2, f_h0_3, f_h0_4, f_h0_5, .ref hd, f_h0_7, .ref hf, f_h0_9, f_h0_10])), (aW, .inr (10, [f_aW_0, .ref aC, f_aW_2, f_aW_3, f_aW_4, f_aW_5, f_aW_6])), (aC, .inr (1, [f_aC_0, f_aC_1, .int 0])), (hd, .inl (cs 0, 6, .inl g)), (hf, .inl (cs 0, 448, .inl (upd ff 0 0)))] := hD
    refine lv_iinc (v := 1) (lv' := [(8, .int 1), (7, .int 7), (6, .int 0), (0, .ref h0), (1, .ref aW), (2, .ref aA), (3, .long a), (5, .int (nI 3))]) hx hb dX9_share_108 hl (k := 0) rfl (by first | rfl | decide) (by decide) rfl (fun ls hl => ?_)
    refine lv_goto (tgt := 77) hx hb dX9_share_111 (by decide) ?_
    generalize (upd ff 0 0) = gf_5 at hP hD
    refine lv_iload hx hb dX9_share_77 (lv_at hl 0 rfl) ?_
    refine lv_iload hx hb dX9_share_79 (lv_at hl 1 rfl) ?_
    refine lv_icmp_gt (tgt := 114) hx hb dX9_share_81 (by decide) (fun h => absurd h (by decide)) (fun _ => ?_)
    refine lv_aload_n hx hb dX9_share_84 rfl (lv_at hl 3 rfl) ?_
    refine va_get (ci := 9) (v := .ref hf) (C := RX9) (T := TX9) (N := 11) hx hb htl inX9 hown hK hP 0 rfl rfl 8 (by decide) (htl _ fl_RX9_31) (fun _ h9 => h9) rfl dX9_share_85 ?_
    refine lv_iload hx hb dX9_share_88 (lv_at hl 2 rfl) ?_
    refine lv_bipush (v := 64) hx hb dX9_share_90 (by decide) ?_
    refine lv_imul hx hb dX9_share_92 ?_
    refine lv_topi (fun xv ex => ?_)
    obtain rfl : xv = 0 := ex.trans (by first | rfl | decide)
    refine lv_iload hx hb dX9_share_93 (lv_at hl 0 rfl) ?_
    refine lv_iadd hx hb dX9_share_95 ?_
    refine lv_topi (fun xv ex => ?_)
    obtain rfl : xv = 1 := ex.trans (by first | rfl | decide)
    refine lv_iload hx hb dX9_share_96 (lv_at hl 0 rfl) ?_
    refine lv_if_ne (tgt := 105) hx hb dX9_share_98 (by decide) (fun _ => ?_) (fun h => absurd h (by decide))
    refine lv_ldc hx hb hown (htl _ ct_RX9_68) dX9_share_105 ?_
    refine va_iast hx hb hK hP hD hS 4 0 rfl rfl (by unfold vp_in; decide) dX9_share_107 (fun H locs hP hD hS => ?_)
    have hP : va_P G vwCl [(h0, .inr (9, [f_h0_0, f_h0_1, f_h0_2, f_h0_3, f_h0_4, f_h0_5, .ref hd, f_h0_7, .ref hf, f_h0_9, f_h0_10])), (aW, .inr (10, [f_aW_0, .ref aC, f_aW_2, f_aW_3, f_aW_4, f_aW_5, f_aW_6])), (aC, .inr (1, [f_aC_0, f_aC_1, .int 0])), (hd, .inl (cs 0, 6, .inl g)), (hf, .inl (cs 0, 448, .inl (upd gf_5 1 1000000)))] H := hP
    have hD : va_D A [(h0, .inr (9, [f_h0_0, f_h0_1, f_h0_2, f_h0_3, f_h0_4, f_h0_5, .ref hd, f_h0_7, .ref hf, f_h0_9, f_h0_10])), (aW, .inr (10, [f_aW_0, .ref aC, f_aW_2, f_aW_3, f_aW_4, f_aW_5, f_aW_6])), (aC, .inr (1, [f_aC_0, f_aC_1, .int 0])), (hd, .inl (cs 0, 6, .inl g)), (hf, .inl (cs 0, 448, .inl (upd gf_5 1 1000000)))] := hD
    refine lv_iinc (v := 2) (lv' := [(8, .int 2), (7, .int 7), (6, .int 0), (0, .ref h0), (1, .ref aW), (2, .ref aA), (3, .long a), (5, .int (nI 3))]) hx hb dX9_share_108 hl (k := 0) rfl (by first | rfl | decide) (by decide) rfl (fun ls hl => ?_)
    refine lv_goto (tgt := 77) hx hb dX9_share_111 (by decide) ?_
    generalize (upd gf_5 1 1000000) = gf_6 at hP hD
    refine lv_iload hx hb dX9_share_77 (lv_at hl 0 rfl) ?_
    refine lv_iload hx hb dX9_share_79 (lv_at hl 1 rfl) ?_
    refine lv_icmp_gt (tgt := 114) hx hb dX9_share_81 (by decide) (fun h => absurd h (by decide)) (fun _ => ?_)
    refine lv_aload_n hx hb dX9_share_84 rfl (lv_at hl 3 rfl) ?_
    refine va_get (ci := 9) (v := .ref hf) (C := RX9) (T := TX9) (N := 11) hx hb htl inX9 hown hK hP 0 rfl rfl 8 (by decide) (htl _ fl_RX9_31) (fun _ h9 => h9) rfl dX9_share_85 ?_
    refine lv_iload hx hb dX9_share_88 (lv_at hl 2 rfl) ?_
    refine lv_bipush (v := 64) hx hb dX9_share_90 (by decide) ?_
    refine lv_imul hx hb dX9_share_92 ?_
    refine lv_topi (fun xv ex => ?_)
    obtain rfl : xv = 0 := ex.trans (by first | rfl | decide)
    refine lv_iload hx hb dX9_share_93 (lv_at hl 0 rfl) ?_
    refine lv_iadd hx hb dX9_share_95 ?_
    refine lv_topi (fun xv ex => ?_)
    obtain rfl : xv = 2 := ex.trans (by first | rfl | decide)
    refine lv_iload hx hb dX9_share_96 (lv_at hl 0 rfl) ?_
    refine lv_if_ne (tgt := 105) hx hb dX9_share_98 (by decide) (fun _ => ?_) (fun h => absurd h (by decide))
    refine lv_ldc hx hb hown (htl _ ct_RX9_68) dX9_share_105 ?_
    refine va_iast hx hb hK hP hD hS 4 0 rfl rfl (by unfold vp_in; decide) dX9_share_107 (fun H locs hP hD hS => ?_)
    have hP : va_P G vwCl [(h0, .inr (9, [f_h0_0, f_h0_1, f_h0_2, f_h0_3, f_h0_4, f_h0_5, .ref hd, f_h0_7, .ref hf, f_h0_9, f_h0_10])), (aW, .inr (10, [f_aW_0, .ref aC, f_aW_2, f_aW_3, f_aW_4, f_aW_5, f_aW_6])), (aC, .inr (1, [f_aC_0, f_aC_1, .int 0])), (hd, .inl (cs 0, 6, .inl g)), (hf, .inl (cs 0, 448, .inl (upd gf_6 2 1000000)))] H := hP
    have hD : va_D A [(h0, .inr (9, [f_h0_0, f_h0_1, f_h0_2, f_h0_3, f_h0_4, f_h0_5, .ref hd, f_h0_7, .ref hf, f_h0_9, f_h0_10])), (aW, .inr (10, [f_aW_0, .ref aC, f_aW_2, f_aW_3, f_aW_4, f_aW_5, f_aW_6])), (aC, .inr (1, [f_aC_0, f_aC_1, .int 0])), (hd, .inl (cs 0, 6, .inl g)), (hf, .inl (cs 0, 448, .inl (upd gf_6 2 1000000)))] := hD
    refine lv_iinc (v := 3) (lv' := [(8, .int 3), (7, .int 7), (6, .int 0), (0, .ref h0), (1, .ref aW), (2, .ref aA), (3, .long a), (5, .int (nI 3))]) hx hb dX9_share_108 hl (k := 0) rfl (by first | rfl | decide) (by decide) rfl (fun ls hl => ?_)
    refine lv_goto (tgt := 77) hx hb dX9_share_111 (by decide) ?_
    generalize (upd gf_6 2 1000000) = gf_7 at hP hD
    refine lv_iload hx hb dX9_share_77 (lv_at hl 0 rfl) ?_
    refine lv_iload hx hb dX9_share_79 (lv_at hl 1 rfl) ?_
    refine lv_icmp_gt (tgt := 114) hx hb dX9_share_81 (by decide) (fun h => absurd h (by decide)) (fun _ => ?_)
    refine lv_aload_n hx hb dX9_share_84 rfl (lv_at hl 3 rfl) ?_
    refine va_get (ci := 9) (v := .ref hf) (C := RX9) (T := TX9) (N := 11) hx hb htl inX9 hown hK hP 0 rfl rfl 8 (by decide) (htl _ fl_RX9_31) (fun _ h9 => h9) rfl dX9_share_85 ?_
    refine lv_iload hx hb dX9_share_88 (lv_at hl 2 rfl) ?_
    refine lv_bipush (v := 64) hx hb dX9_share_90 (by decide) ?_
    refine lv_imul hx hb dX9_share_92 ?_
    refine lv_topi (fun xv ex => ?_)
    obtain rfl : xv = 0 := ex.trans (by first | rfl | decide)
    refine lv_iload hx hb dX9_share_93 (lv_at hl 0 rfl) ?_
    refine lv_iadd hx hb dX9_share_95 ?_
    refine lv_topi (fun xv ex => ?_)
    obtain rfl : xv = 3 := ex.trans (by first | rfl | decide)
    refine lv_iload hx hb dX9_share_96 (lv_at hl 0 rfl) ?_
    refine lv_if_ne (tgt := 105) hx hb dX9_share_98 (by decide) (fun _ => ?_) (fun h => absurd h (by decide))
    refine lv_ldc hx hb hown (htl _ ct_RX9_68) dX9_share_105 ?_
    refine va_iast hx hb hK hP hD hS 4 0 rfl rfl (by unfold vp_in; decide) dX9_share_107 (fun H locs hP hD hS => ?_)
    have hP : va_P G vwCl [(h0, .inr (9, [f_h0_0, f_h0_1, f_h0_2, f_h0_3, f_h0_4, f_h0_5, .ref hd, f_h0_7, .ref hf, f_h0_9, f_h0_10])), (aW, .inr (10, [f_aW_0, .ref aC, f_aW_2, f_aW_3, f_aW_4, f_aW_5, f_aW_6])), (aC, .inr (1, [f_aC_0, f_aC_1, .int 0])), (hd, .inl (cs 0, 6, .inl g)), (hf, .inl (cs 0, 448, .inl (upd gf_7 3 1000000)))] H := hP
    have hD : va_D A [(h0, .inr (9, [f_h0_0, f_h0_1, f_h0_2, f_h0_3, f_h0_4, f_h0_5, .ref hd, f_h0_7, .ref hf, f_h0_9, f_h0_10])), (aW, .inr (10, [f_aW_0, .ref aC, f_aW_2, f_aW_3, f_aW_4, f_aW_5, f_aW_6])), (aC, .inr (1, [f_aC_0, f_aC_1, .int 0])), (hd, .inl (cs 0, 6, .inl g)), (hf, .inl (cs 0, 448, .inl (upd gf_7 3 1000000)))] := hD
    refine lv_iinc (v := 4) (lv' := [(8, .int 4), (7, .int 7), (6, .int 0), (0, .ref h0), (1, .ref aW), (2, .ref aA), (3, .long a), (5, .int (nI 3))]) hx hb dX9_share_108 hl (k := 0) rfl (by first | rfl | decide) (by decide) rfl (fun ls hl => ?_)
    refine lv_goto (tgt := 77) hx hb dX9_share_111 (by decide) ?_
    generalize (upd gf_7 3 1000000) = gf_8 at hP hD
    refine lv_iload hx hb dX9_share_77 (lv_at hl 0 rfl) ?_
    refine lv_iload hx hb dX9_share_79 (lv_at hl 1 rfl) ?_
    refine lv_icmp_gt (tgt := 114) hx hb dX9_share_81 (by decide) (fun h => absurd h (by decide)) (fun _ => ?_)
    refine lv_aload_n hx hb dX9_share_84 rfl (lv_at hl 3 rfl) ?_
    refine va_get (ci := 9) (v := .ref hf) (C := RX9) (T := TX9) (N := 11) hx hb htl inX9 hown hK hP 0 rfl rfl 8 (by decide) (htl _ fl_RX9_31) (fun _ h9 => h9) rfl dX9_share_85 ?_
    refine lv_iload hx hb dX9_share_88 (lv_at hl 2 rfl) ?_
    refine lv_bipush (v := 64) hx hb dX9_share_90 (by decide) ?_
    refine lv_imul hx hb dX9_share_92 ?_
    refine lv_topi (fun xv ex => ?_)
    obtain rfl : xv = 0 := ex.trans (by first | rfl | decide)
    refine lv_iload hx hb dX9_share_93 (lv_at hl 0 rfl) ?_
    refine lv_iadd hx hb dX9_share_95 ?_
    refine lv_topi (fun xv ex => ?_)
    obtain rfl : xv = 4 := ex.trans (by first | rfl | decide)
    refine lv_iload hx hb dX9_share_96 (lv_at hl 0 rfl) ?_
    refine lv_if_ne (tgt := 105) hx hb dX9_share_98 (by decide) (fun _ => ?_) (fun h => absurd h (by decide))
    refine lv_ldc hx hb hown (htl _ ct_RX9_68) dX9_share_105 ?_
    refine va_iast hx hb hK hP hD hS 4 0 rfl rfl (by unfold vp_in; decide) dX9_share_107 (fun H locs hP hD hS => ?_)
    have hP : va_P G vwCl [(h0, .inr (9, [f_h0_0, f_h0_1, f_h0_2, f_h0_3, f_h0_4, f_h0_5, .ref hd, f_h0_7, .ref hf, f_h0_9, f_h0_10])), (aW, .inr (10, [f_aW_0, .ref aC, f_aW_2, f_aW_3, f_aW_4, f_aW_5, f_aW_6])), (aC, .inr (1, [f_aC_0, f_aC_1, .int 0])), (hd, .inl (cs 0, 6, .inl g)), (hf, .inl (cs 0, 448, .inl (upd gf_8 4 1000000)))] H := hP
    have hD : va_D A [(h0, .inr (9, [f_h0_0, f_h0_1, f_h0_2, f_h0_3, f_h0_4, f_h0_5, .ref hd, f_h0_7, .ref hf, f_h0_9, f_h0_10])), (aW, .inr (10, [f_aW_0, .ref aC, f_aW_2, f_aW_3, f_aW_4, f_aW_5, f_aW_6])), (aC, .inr (1, [f_aC_0, f_aC_1, .int 0])), (hd, .inl (cs 0, 6, .inl g)), (hf, .inl (cs 0, 448, .inl (upd gf_8 4 1000000)))] := hD
    refine lv_iinc (v := 5) (lv' := [(8, .int 5), (7, .int 7), (6, .int 0), (0, .ref h0), (1, .ref aW), (2, .ref aA), (3, .long a), (5, .int (nI 3))]) hx hb dX9_share_108 hl (k := 0) rfl (by first | rfl | decide) (by decide) rfl (fun ls hl => ?_)
    refine lv_goto (tgt := 77) hx hb dX9_share_111 (by decide) ?_
    generalize (upd gf_8 4 1000000) = gf_9 at hP hD
    refine lv_iload hx hb dX9_share_77 (lv_at hl 0 rfl) ?_
    refine lv_iload hx hb dX9_share_79 (lv_at hl 1 rfl) ?_
    refine lv_icmp_gt (tgt := 114) hx hb dX9_share_81 (by decide) (fun h => absurd h (by decide)) (fun _ => ?_)
    refine lv_aload_n hx hb dX9_share_84 rfl (lv_at hl 3 rfl) ?_
    refine va_get (ci := 9) (v := .ref hf) (C := RX9) (T := TX9) (N := 11) hx hb htl inX9 hown hK hP 0 rfl rfl 8 (by decide) (htl _ fl_RX9_31) (fun _ h9 => h9) rfl dX9_share_85 ?_
    refine lv_iload hx hb dX9_share_88 (lv_at hl 2 rfl) ?_
    refine lv_bipush (v := 64) hx hb dX9_share_90 (by decide) ?_
    refine lv_imul hx hb dX9_share_92 ?_
    refine lv_topi (fun xv ex => ?_)
    obtain rfl : xv = 0 := ex.trans (by first | rfl | decide)
    refine lv_iload hx hb dX9_share_93 (lv_at hl 0 rfl) ?_
    refine lv_iadd hx hb dX9_share_95 ?_
    refine lv_topi (fun xv ex => ?_)
    obtain rfl : xv = 5 := ex.trans (by first | rfl | decide)
    refine lv_iload hx hb dX9_share_96 (lv_at hl 0 rfl) ?_
    refine lv_if_ne (tgt := 105) hx hb dX9_share_98 (by decide) (fun _ => ?_) (fun h => absurd h (by decide))
    refine lv_ldc hx hb hown (htl _ ct_RX9_68) dX9_share_105 ?_
    refine va_iast hx hb hK hP hD hS 4 0 rfl rfl (by unfold vp_in; decide) dX9_share_107 (fun H locs hP hD hS => ?_)
    have hP : va_P G vwCl [(h0, .inr (9, [f_h0_0, f_h0_1, f_h0_2, f_h0_3, f_h0_4, f_h0_5, .ref hd, f_h0_7, .ref hf, f_h0_9, f_h0_10])), (aW, .inr (10, [f_aW_0, .ref aC, f_aW_2, f_aW_3, f_aW_4, f_aW_5, f_aW_6])), (aC, .inr (1, [f_aC_0, f_aC_1, .int 0])), (hd, .inl (cs 0, 6, .inl g)), (hf, .inl (cs 0, 448, .inl (upd gf_9 5 1000000)))] H := hP
    have hD : va_D A [(h0, .inr (9, [f_h0_0, f_h0_1, f_h0_2, f_h0_3, f_h0_4, f_h0_5, .ref hd, f_h0_7, .ref hf, f_h0_9, f_h0_10])), (aW, .inr (10, [f_aW_0, .ref aC, f_aW_2, f_aW_3, f_aW_4, f_aW_5, f_aW_6])), (aC, .inr (1, [f_aC_0, f_aC_1, .int 0])), (hd, .inl (cs 0, 6, .inl g)), (hf, .inl (cs 0, 448, .inl (upd gf_9 5 1000000)))] := hD
    refine lv_iinc (v := 6) (lv' := [(8, .int 6), (7, .int 7), (6, .int 0), (0, .ref h0), (1, .ref aW), (2, .ref aA), (3, .long a), (5, .int (nI 3))]) hx hb dX9_share_108 hl (k := 0) rfl (by first | rfl | decide) (by decide) rfl (fun ls hl => ?_)
    refine lv_goto (tgt := 77) hx hb dX9_share_111 (by decide) ?_
    generalize (upd gf_9 5 1000000) = gf_10 at hP hD
    refine lv_iload hx hb dX9_share_77 (lv_at hl 0 rfl) ?_
    refine lv_iload hx hb dX9_share_79 (lv_at hl 1 rfl) ?_
    refine lv_icmp_gt (tgt := 114) hx hb dX9_share_81 (by decide) (fun h => absurd h (by decide)) (fun _ => ?_)
    refine lv_aload_n hx hb dX9_share_84 rfl (lv_at hl 3 rfl) ?_
    refine va_get (ci := 9) (v := .ref hf) (C := RX9) (T := TX9) (N := 11) hx hb htl inX9 hown hK hP 0 rfl rfl 8 (by decide) (htl _ fl_RX9_31) (fun _ h9 => h9) rfl dX9_share_85 ?_
    refine lv_iload hx hb dX9_share_88 (lv_at hl 2 rfl) ?_
    refine lv_bipush (v := 64) hx hb dX9_share_90 (by decide) ?_
    refine lv_imul hx hb dX9_share_92 ?_
    refine lv_topi (fun xv ex => ?_)
    obtain rfl : xv = 0 := ex.trans (by first | rfl | decide)
    refine lv_iload hx hb dX9_share_93 (lv_at hl 0 rfl) ?_
    refine lv_iadd hx hb dX9_share_95 ?_
    refine lv_topi (fun xv ex => ?_)
    obtain rfl : xv = 6 := ex.trans (by first | rfl | decide)
    refine lv_iload hx hb dX9_share_96 (lv_at hl 0 rfl) ?_
    refine lv_if_ne (tgt := 105) hx hb dX9_share_98 (by decide) (fun _ => ?_) (fun h => absurd h (by decide))
    refine lv_ldc hx hb hown (htl _ ct_RX9_68) dX9_share_105 ?_
    refine va_iast hx hb hK hP hD hS 4 0 rfl rfl (by unfold vp_in; decide) dX9_share_107 (fun H locs hP hD hS => ?_)
    have hP : va_P G vwCl [(h0, .inr (9, [f_h0_0, f_h0_1, f_h0_2, f_h0_3, f_h0_4, f_h0_5, .ref hd, f_h0_7, .ref hf, f_h0_9, f_h0_10])), (aW, .inr (10, [f_aW_0, .ref aC, f_aW_2, f_aW_3, f_aW_4, f_aW_5, f_aW_6])), (aC, .inr (1, [f_aC_0, f_aC_1, .int 0])), (hd, .inl (cs 0, 6, .inl g)), (hf, .inl (cs 0, 448, .inl (upd gf_10 6 1000000)))] H := hP
    have hD : va_D A [(h0, .inr (9, [f_h0_0, f_h0_1, f_h0_2, f_h0_3, f_h0_4, f_h0_5, .ref hd, f_h0_7, .ref hf, f_h0_9, f_h0_10])), (aW, .inr (10, [f_aW_0, .ref aC, f_aW_2, f_aW_3, f_aW_4, f_aW_5, f_aW_6])), (aC, .inr (1, [f_aC_0, f_aC_1, .int 0])), (hd, .inl (cs 0, 6, .inl g)), (hf, .inl (cs 0, 448, .inl (upd gf_10 6 1000000)))] := hD
    refine lv_iinc (v := 7) (lv' := [(8, .int 7), (7, .int 7), (6, .int 0), (0, .ref h0), (1, .ref aW), (2, .ref aA), (3, .long a), (5, .int (nI 3))]) hx hb dX9_share_108 hl (k := 0) rfl (by first | rfl | decide) (by decide) rfl (fun ls hl => ?_)
    refine lv_goto (tgt := 77) hx hb dX9_share_111 (by decide) ?_
    generalize (upd gf_10 6 1000000) = gf_11 at hP hD
    refine lv_iload hx hb dX9_share_77 (lv_at hl 0 rfl) ?_
    refine lv_iload hx hb dX9_share_79 (lv_at hl 1 rfl) ?_
    refine lv_icmp_gt (tgt := 114) hx hb dX9_share_81 (by decide) (fun h => absurd h (by decide)) (fun _ => ?_)
    refine lv_aload_n hx hb dX9_share_84 rfl (lv_at hl 3 rfl) ?_
    refine va_get (ci := 9) (v := .ref hf) (C := RX9) (T := TX9) (N := 11) hx hb htl inX9 hown hK hP 0 rfl rfl 8 (by decide) (htl _ fl_RX9_31) (fun _ h9 => h9) rfl dX9_share_85 ?_
    refine lv_iload hx hb dX9_share_88 (lv_at hl 2 rfl) ?_
    refine lv_bipush (v := 64) hx hb dX9_share_90 (by decide) ?_
    refine lv_imul hx hb dX9_share_92 ?_
    refine lv_topi (fun xv ex => ?_)
    obtain rfl : xv = 0 := ex.trans (by first | rfl | decide)
    refine lv_iload hx hb dX9_share_93 (lv_at hl 0 rfl) ?_
    refine lv_iadd hx hb dX9_share_95 ?_
    refine lv_topi (fun xv ex => ?_)
    obtain rfl : xv = 7 := ex.trans (by first | rfl | decide)
    refine lv_iload hx hb dX9_share_96 (lv_at hl 0 rfl) ?_
    refine lv_if_ne (tgt := 105) hx hb dX9_share_98 (by decide) (fun _ => ?_) (fun h => absurd h (by decide))
    refine lv_ldc hx hb hown (htl _ ct_RX9_68) dX9_share_105 ?_
    refine va_iast hx hb hK hP hD hS 4 0 rfl rfl (by unfold vp_in; decide) dX9_share_107 (fun H locs hP hD hS => ?_)
    have hP : va_P G vwCl [(h0, .inr (9, [f_h0_0, f_h0_1, f_h0_2, f_h0_3, f_h0_4, f_h0_5, .ref hd, f_h0_7, .ref hf, f_h0_9, f_h0_10])), (aW, .inr (10, [f_aW_0, .ref aC, f_aW_2, f_aW_3, f_aW_4, f_aW_5, f_aW_6])), (aC, .inr (1, [f_aC_0, f_aC_1, .int 0])), (hd, .inl (cs 0, 6, .inl g)), (hf, .inl (cs 0, 448, .inl (upd gf_11 7 1000000)))] H := hP
    have hD : va_D A [(h0, .inr (9, [f_h0_0, f_h0_1, f_h0_2, f_h0_3, f_h0_4, f_h0_5, .ref hd, f_h0_7, .ref hf, f_h0_9, f_h0_10])), (aW, .inr (10, [f_aW_0, .ref aC, f_aW_2, f_aW_3, f_aW_4, f_aW_5, f_aW_6])), (aC, .inr (1, [f_aC_0, f_aC_1, .int 0])), (hd, .inl (cs 0, 6, .inl g)), (hf, .inl (cs 0, 448, .inl (upd gf_11 7 1000000)))] := hD
    refine lv_iinc (v := 8) (lv' := [(8, .int 8), (7, .int 7), (6, .int 0), (0, .ref h0), (1, .ref aW), (2, .ref aA), (3, .long a), (5, .int (nI 3))]) hx hb dX9_share_108 hl (k := 0) rfl (by first | rfl | decide) (by decide) rfl (fun ls hl => ?_)
    refine lv_goto (tgt := 77) hx hb dX9_share_111 (by decide) ?_
    refine lv_iload hx hb dX9_share_77 (lv_at hl 0 rfl) ?_
    refine lv_iload hx hb dX9_share_79 (lv_at hl 1 rfl) ?_
    refine lv_icmp_gt (tgt := 114) hx hb dX9_share_81 (by decide) (fun _ => ?_) (fun h => absurd (by decide) h)
    refine lv_iload hx hb dX9_share_114 (lv_at hl 2 rfl) ?_
    refine lv_iconst (v := 1) hx hb dX9_share_116 (by decide) ?_
    refine lv_isub hx hb dX9_share_117 ?_
    refine lv_topi (fun xv ex => ?_)
    obtain rfl : xv = (-1) := ex.trans (by first | rfl | decide)
    refine lv_istore (lv' := [(8, .int (-1)), (7, .int 7), (6, .int 0), (0, .ref h0), (1, .ref aW), (2, .ref aA), (3, .long a), (5, .int (nI 3))]) hx hb dX9_share_118 hl (by decide) rfl (fun ls hl => ?_)
    refine lv_iload hx hb dX9_share_120 (lv_at hl 0 rfl) ?_
    refine lv_if_lt (tgt := 170) hx hb dX9_share_122 (by decide) (fun _ => ?_) (fun h => absurd (by decide) h)
    refine lv_aload_n hx hb dX9_share_170 rfl (lv_at hl 3 rfl) ?_
    refine lv_aload_n hx hb dX9_share_171 rfl (lv_at hl 3 rfl) ?_
    refine va_get (ci := 9) (v := .ref hf) (C := RX9) (T := TX9) (N := 11) hx hb htl inX9 hown hK hP 0 rfl rfl 8 (by decide) (htl _ fl_RX9_31) (fun _ h9 => h9) rfl dX9_share_172 ?_
    refine lv_iload hx hb dX9_share_175 (lv_at hl 1 rfl) ?_
    refine va_iald hx hb hK hP 4 0 rfl rfl (by unfold vp_in; decide) dX9_share_177 ?_
    refine lv_topi (fun xv ex => ?_)
    obtain rfl : xv = 1000000 := ex.trans (by first | exact pk_us | rfl | decide)
    refine va_put (ci := 9) (v := .int 1000000) (ty := .int) (C := RX9) (T := TX9) (N := 11) hx hb htl inX9 tyX9 tyX9_ok nmX9 hown hK hP hD hS 0 rfl rfl 5 (by decide) (htl _ fl_RX9_92) (fun _ h9 => h9) rfl (by decide +kernel) (by first | rfl | decide) (by first | rfl | decide) (Nat.le_of_ble_eq_true rfl) dX9_share_178 (fun H locs hP hD hS => ?_)
    have hP : va_P G vwCl [(h0, .inr (9, [f_h0_0, f_h0_1, f_h0_2, f_h0_3, f_h0_4, .int 1000000, .ref hd, f_h0_7, .ref hf, f_h0_9, f_h0_10])), (aW, .inr (10, [f_aW_0, .ref aC, f_aW_2, f_aW_3, f_aW_4, f_aW_5, f_aW_6])), (aC, .inr (1, [f_aC_0, f_aC_1, .int 0])), (hd, .inl (cs 0, 6, .inl g)), (hf, .inl (cs 0, 448, .inl (upd gf_11 7 1000000)))] H := hP
    have hD : va_D A [(h0, .inr (9, [f_h0_0, f_h0_1, f_h0_2, f_h0_3, f_h0_4, .int 1000000, .ref hd, f_h0_7, .ref hf, f_h0_9, f_h0_10])), (aW, .inr (10, [f_aW_0, .ref aC, f_aW_2, f_aW_3, f_aW_4, f_aW_5, f_aW_6])), (aC, .inr (1, [f_aC_0, f_aC_1, .int 0])), (hd, .inl (cs 0, 6, .inl g)), (hf, .inl (cs 0, 448, .inl (upd gf_11 7 1000000)))] := hD
    refine lv_aload_n hx hb dX9_share_181 rfl (lv_at hl 3 rfl) ?_
    refine va_get (ci := 9) (v := .int 1000000) (C := RX9) (T := TX9) (N := 11) hx hb htl inX9 hown hK hP 0 rfl rfl 5 (by decide) (htl _ fl_RX9_92) (fun _ h9 => h9) rfl dX9_share_182 ?_
    refine lv_ldc hx hb hown (htl _ ct_RX9_68) dX9_share_185 ?_
    refine lv_icmp_lt (tgt := 192) hx hb dX9_share_187 (by decide) (fun h => absurd h (by decide)) (fun _ => ?_)
    refine lv_iconst (v := 0) hx hb dX9_share_190 (by decide) ?_
    exact W.zret (ty := .boolean) (v := 0) hx hb hr (by decide) (fun t ht hW => ⟨⟨0, (), rfl, ⟨rfl, (by decide)⟩, ⟨fun k q h => by simp at h, va_K.moved hW.alike hK, ⟨fun i j p q h => by simp at h, fun k q h => by simp at h⟩⟩⟩, hS.F ht⟩) hS.2.2 dX9_share_191
  · refine lv_aload_n hx hb dX9_share_49 rfl (lv_at hl 0 rfl) ?_
    refine lv_aload_n hx hb dX9_share_50 rfl (lv_at hl 1 rfl) ?_
    refine lv_aload_n hx hb dX9_share_51 rfl (lv_at hl 2 rfl) ?_
    refine lv_iload hx hb dX9_share_52 (lv_at hl 4 rfl) ?_
    refine va_csv (mkVr (rest := []) ⟨hx, hb, hml, hown, htl⟩ hN hK hP (c_X9_priceAll l G cs h0 aW aA (nI 4) f_h0_0 f_h0_1 f_h0_2 f_h0_3 f_h0_4 f_h0_5 (.ref hd) f_h0_7 (.ref hf) f_h0_9 f_h0_10 f_aW_0 aC f_aW_2 f_aW_3 f_aW_4 f_aW_5 f_aW_6 f_aC_0 f_aC_1) [0, 1, 2] rfl 0 9 rfl rfl (cV 3 htl lk_RX9_73 mI_X9_priceAll mS_X9_priceAll mN_RX9 mC_X9_priceAll ok_X9_priceAll rfl rfl ⟨(Nat.le_of_ble_eq_true rfl), (Nat.le_of_ble_eq_true rfl)⟩) rfl hl.1 rfl (Nat.le_of_ble_eq_true rfl) dX9_share_54 ⟨(Nat.le_of_ble_eq_true rfl), (Nat.le_of_ble_eq_true rfl)⟩) (fun _ => ?_)
    refine lv_aload_n hx hb dX9_share_57 rfl (lv_at hl 1 rfl) ?_
    refine va_get (ci := 10) (v := .ref aC) (C := RX10) (T := TX10) (N := 7) hx hb htl inX10 hown hK hP 1 rfl rfl 1 (by decide) (htl _ fl_RX9_77) (fun _ h9 => h9) rfl dX9_share_58 ?_
    refine va_get (ci := 1) (v := .int 0) (C := RX1) (T := TX1) (N := 3) hx hb htl inX1 hown hK hP 2 rfl rfl 2 (by decide) (htl _ fl_RX9_83) (fun _ h9 => h9) rfl dX9_share_61 ?_
    refine lv_istore (lv' := [(6, .int 0), (0, .ref h0), (1, .ref aW), (2, .ref aA), (3, .long a), (5, .int (nI 4))]) hx hb dX9_share_64 hl (by decide) rfl (fun ls hl => ?_)
    refine lv_iconst (v := 1) hx hb dX9_share_66 (by decide) ?_
    refine lv_iload hx hb dX9_share_67 (lv_at hl 5 rfl) ?_
    refine lv_ishl hx hb dX9_share_69 ?_
    refine lv_topi (fun xv ex => ?_)
    obtain rfl : xv = 16 := ex.trans (by first | rfl | decide)
    refine lv_iconst (v := 1) hx hb dX9_share_70 (by decide) ?_
    refine lv_isub hx hb dX9_share_71 ?_
    refine lv_topi (fun xv ex => ?_)
    obtain rfl : xv = 15 := ex.trans (by first | rfl | decide)
    refine lv_istore (lv' := [(7, .int 15), (6, .int 0), (0, .ref h0), (1, .ref aW), (2, .ref aA), (3, .long a), (5, .int (nI 4))]) hx hb dX9_share_72 hl (by decide) rfl (fun ls hl => ?_)
    refine lv_iconst (v := 0) hx hb dX9_share_74 (by decide) ?_
    refine lv_istore (lv' := [(8, .int 0), (7, .int 15), (6, .int 0), (0, .ref h0), (1, .ref aW), (2, .ref aA), (3, .long a), (5, .int (nI 4))]) hx hb dX9_share_75 hl (by decide) rfl (fun ls hl => ?_)
    refine lv_iload hx hb dX9_share_77 (lv_at hl 0 rfl) ?_
    refine lv_iload hx hb dX9_share_79 (lv_at hl 1 rfl) ?_
    refine lv_icmp_gt (tgt := 114) hx hb dX9_share_81 (by decide) (fun h => absurd h (by decide)) (fun _ => ?_)
    refine lv_aload_n hx hb dX9_share_84 rfl (lv_at hl 3 rfl) ?_
    refine va_get (ci := 9) (v := .ref hf) (C := RX9) (T := TX9) (N := 11) hx hb htl inX9 hown hK hP 0 rfl rfl 8 (by decide) (htl _ fl_RX9_31) (fun _ h9 => h9) rfl dX9_share_85 ?_
    refine lv_iload hx hb dX9_share_88 (lv_at hl 2 rfl) ?_
    refine lv_bipush (v := 64) hx hb dX9_share_90 (by decide) ?_
    refine lv_imul hx hb dX9_share_92 ?_
    refine lv_topi (fun xv ex => ?_)
    obtain rfl : xv = 0 := ex.trans (by first | rfl | decide)
    refine lv_iload hx hb dX9_share_93 (lv_at hl 0 rfl) ?_
    refine lv_iadd hx hb dX9_share_95 ?_
    refine lv_topi (fun xv ex => ?_)
    obtain rfl : xv = 0 := ex.trans (by first | rfl | decide)
    refine lv_iload hx hb dX9_share_96 (lv_at hl 0 rfl) ?_
    refine lv_if_ne (tgt := 105) hx hb dX9_share_98 (by decide) (fun h => absurd (by decide) h) (fun _ => ?_)
    refine lv_iconst (v := 0) hx hb dX9_share_101 (by decide) ?_
    refine lv_goto (tgt := 107) hx hb dX9_share_102 (by decide) ?_
    refine va_iast hx hb hK hP hD hS 4 0 rfl rfl (by unfold vp_in; decide) dX9_share_107 (fun H locs hP hD hS => ?_)
    have hP : va_P G vwCl [(h0, .inr (9, [f_h0_0, f_h0_1, f_h0_2, f_h0_3, f_h0_4, f_h0_5, .ref hd, f_h0_7, .ref hf, f_h0_9, f_h0_10])), (aW, .inr (10, [f_aW_0, .ref aC, f_aW_2, f_aW_3, f_aW_4, f_aW_5, f_aW_6])), (aC, .inr (1, [f_aC_0, f_aC_1, .int 0])), (hd, .inl (cs 0, 6, .inl g)), (hf, .inl (cs 0, 448, .inl (upd ff 0 0)))] H := hP
    have hD : va_D A [(h0, .inr (9, [f_h0_0, f_h0_1, f_h0_2, f_h0_3, f_h0_4, f_h0_5, .ref hd, f_h0_7, .ref hf, f_h0_9, f_h0_10])), (aW, .inr (10, [f_aW_0, .ref aC, f_aW_2, f_aW_3, f_aW_4, f_aW_5, f_aW_6])), (aC, .inr (1, [f_aC_0, f_aC_1, .int 0])), (hd, .inl (cs 0, 6, .inl g)), (hf, .inl (cs 0, 448, .inl (upd ff 0 0)))] := hD
    refine lv_iinc (v := 1) (lv' := [(8, .int 1), (7, .int 15), (6, .int 0), (0, .ref h0), (1, .ref aW), (2, .ref aA), (3, .long a), (5, .int (nI 4))]) hx hb dX9_share_108 hl (k := 0) rfl (by first | rfl | decide) (by decide) rfl (fun ls hl => ?_)
    refine lv_goto (tgt := 77) hx hb dX9_share_111 (by decide) ?_
    generalize (upd ff 0 0) = gf_12 at hP hD
    refine lv_iload hx hb dX9_share_77 (lv_at hl 0 rfl) ?_
    refine lv_iload hx hb dX9_share_79 (lv_at hl 1 rfl) ?_
    refine lv_icmp_gt (tgt := 114) hx hb dX9_share_81 (by decide) (fun h => absurd h (by decide)) (fun _ => ?_)
    refine lv_aload_n hx hb dX9_share_84 rfl (lv_at hl 3 rfl) ?_
    refine va_get (ci := 9) (v := .ref hf) (C := RX9) (T := TX9) (N := 11) hx hb htl inX9 hown hK hP 0 rfl rfl 8 (by decide) (htl _ fl_RX9_31) (fun _ h9 => h9) rfl dX9_share_85 ?_
    refine lv_iload hx hb dX9_share_88 (lv_at hl 2 rfl) ?_
    refine lv_bipush (v := 64) hx hb dX9_share_90 (by decide) ?_
    refine lv_imul hx hb dX9_share_92 ?_
    refine lv_topi (fun xv ex => ?_)
    obtain rfl : xv = 0 := ex.trans (by first | rfl | decide)
    refine lv_iload hx hb dX9_share_93 (lv_at hl 0 rfl) ?_
    refine lv_iadd hx hb dX9_share_95 ?_
    refine lv_topi (fun xv ex => ?_)
    obtain rfl : xv = 1 := ex.trans (by first | rfl | decide)
    refine lv_iload hx hb dX9_share_96 (lv_at hl 0 rfl) ?_
    refine lv_if_ne (tgt := 105) hx hb dX9_share_98 (by decide) (fun _ => ?_) (fun h => absurd h (by decide))
    refine lv_ldc hx hb hown (htl _ ct_RX9_68) dX9_share_105 ?_
    refine va_iast hx hb hK hP hD hS 4 0 rfl rfl (by unfold vp_in; decide) dX9_share_107 (fun H locs hP hD hS => ?_)
    have hP : va_P G vwCl [(h0, .inr (9, [f_h0_0, f_h0_1, f_h0_2, f_h0_3, f_h0_4, f_h0_5, .ref hd, f_h0_7, .ref hf, f_h0_9, f_h0_10])), (aW, .inr (10, [f_aW_0, .ref aC, f_aW_2, f_aW_3, f_aW_4, f_aW_5, f_aW_6])), (aC, .inr (1, [f_aC_0, f_aC_1, .int 0])), (hd, .inl (cs 0, 6, .inl g)), (hf, .inl (cs 0, 448, .inl (upd gf_12 1 1000000)))] H := hP
    have hD : va_D A [(h0, .inr (9, [f_h0_0, f_h0_1, f_h0_2, f_h0_3, f_h0_4, f_h0_5, .ref hd, f_h0_7, .ref hf, f_h0_9, f_h0_10])), (aW, .inr (10, [f_aW_0, .ref aC, f_aW_2, f_aW_3, f_aW_4, f_aW_5, f_aW_6])), (aC, .inr (1, [f_aC_0, f_aC_1, .int 0])), (hd, .inl (cs 0, 6, .inl g)), (hf, .inl (cs 0, 448, .inl (upd gf_12 1 1000000)))] := hD
    refine lv_iinc (v := 2) (lv' := [(8, .int 2), (7, .int 15), (6, .int 0), (0, .ref h0), (1, .ref aW), (2, .ref aA), (3, .long a), (5, .int (nI 4))]) hx hb dX9_share_108 hl (k := 0) rfl (by first | rfl | decide) (by decide) rfl (fun ls hl => ?_)
    refine lv_goto (tgt := 77) hx hb dX9_share_111 (by decide) ?_
    generalize (upd gf_12 1 1000000) = gf_13 at hP hD
    refine lv_iload hx hb dX9_share_77 (lv_at hl 0 rfl) ?_
    refine lv_iload hx hb dX9_share_79 (lv_at hl 1 rfl) ?_
    refine lv_icmp_gt (tgt := 114) hx hb dX9_share_81 (by decide) (fun h => absurd h (by decide)) (fun _ => ?_)
    refine lv_aload_n hx hb dX9_share_84 rfl (lv_at hl 3 rfl) ?_
    refine va_get (ci := 9) (v := .ref hf) (C := RX9) (T := TX9) (N := 11) hx hb htl inX9 hown hK hP 0 rfl rfl 8 (by decide) (htl _ fl_RX9_31) (fun _ h9 => h9) rfl dX9_share_85 ?_
    refine lv_iload hx hb dX9_share_88 (lv_at hl 2 rfl) ?_
    refine lv_bipush (v := 64) hx hb dX9_share_90 (by decide) ?_
    refine lv_imul hx hb dX9_share_92 ?_
    refine lv_topi (fun xv ex => ?_)
    obtain rfl : xv = 0 := ex.trans (by first | rfl | decide)
    refine lv_iload hx hb dX9_share_93 (lv_at hl 0 rfl) ?_
    refine lv_iadd hx hb dX9_share_95 ?_
    refine lv_topi (fun xv ex => ?_)
    obtain rfl : xv = 2 := ex.trans (by first | rfl | decide)
    refine lv_iload hx hb dX9_share_96 (lv_at hl 0 rfl) ?_
    refine lv_if_ne (tgt := 105) hx hb dX9_share_98 (by decide) (fun _ => ?_) (fun h => absurd h (by decide))
    refine lv_ldc hx hb hown (htl _ ct_RX9_68) dX9_share_105 ?_
    refine va_iast hx hb hK hP hD hS 4 0 rfl rfl (by unfold vp_in; decide) dX9_share_107 (fun H locs hP hD hS => ?_)
    have hP : va_P G vwCl [(h0, .inr (9, [f_h0_0, f_h0_1, f_h0_2, f_h0_3, f_h0_4, f_h0_5, .ref hd, f_h0_7, .ref hf, f_h0_9, f_h0_10])), (aW, .inr (10, [f_aW_0, .ref aC, f_aW_2, f_aW_3, f_aW_4, f_aW_5, f_aW_6])), (aC, .inr (1, [f_aC_0, f_aC_1, .int 0])), (hd, .inl (cs 0, 6, .inl g)), (hf, .inl (cs 0, 448, .inl (upd gf_13 2 1000000)))] H := hP
    have hD : va_D A [(h0, .inr (9, [f_h0_0, f_h0_1, f_h0_2, f_h0_3, f_h0_4, f_h0_5, .ref hd, f_h0_7, .ref hf, f_h0_9, f_h0_10])), (aW, .inr (10, [f_aW_0, .ref aC, f_aW_2, f_aW_3, f_aW_4, f_aW_5, f_aW_6])), (aC, .inr (1, [f_aC_0, f_aC_1, .int 0])), (hd, .inl (cs 0, 6, .inl g)), (hf, .inl (cs 0, 448, .inl (upd gf_13 2 1000000)))] := hD
    refine lv_iinc (v := 3) (lv' := [(8, .int 3), (7, .int 15), (6, .int 0), (0, .ref h0), (1, .ref aW), (2, .ref aA), (3, .long a), (5, .int (nI 4))]) hx hb dX9_share_108 hl (k := 0) rfl (by first | rfl | decide) (by decide) rfl (fun ls hl => ?_)
    refine lv_goto (tgt := 77) hx hb dX9_share_111 (by decide) ?_
    generalize (upd gf_13 2 1000000) = gf_14 at hP hD
    refine lv_iload hx hb dX9_share_77 (lv_at hl 0 rfl) ?_
    refine lv_iload hx hb dX9_share_79 (lv_at hl 1 rfl) ?_
    refine lv_icmp_gt (tgt := 114) hx hb dX9_share_81 (by decide) (fun h => absurd h (by decide)) (fun _ => ?_)
    refine lv_aload_n hx hb dX9_share_84 rfl (lv_at hl 3 rfl) ?_
    refine va_get (ci := 9) (v := .ref hf) (C := RX9) (T := TX9) (N := 11) hx hb htl inX9 hown hK hP 0 rfl rfl 8 (by decide) (htl _ fl_RX9_31) (fun _ h9 => h9) rfl dX9_share_85 ?_
    refine lv_iload hx hb dX9_share_88 (lv_at hl 2 rfl) ?_
    refine lv_bipush (v := 64) hx hb dX9_share_90 (by decide) ?_
    refine lv_imul hx hb dX9_share_92 ?_
    refine lv_topi (fun xv ex => ?_)
    obtain rfl : xv = 0 := ex.trans (by first | rfl | decide)
    refine lv_iload hx hb dX9_share_93 (lv_at hl 0 rfl) ?_
    refine lv_iadd hx hb dX9_share_95 ?_
    refine lv_topi (fun xv ex => ?_)
    obtain rfl : xv = 3 := ex.trans (by first | rfl | decide)
    refine lv_iload hx hb dX9_share_96 (lv_at hl 0 rfl) ?_
    refine lv_if_ne (tgt := 105) hx hb dX9_share_98 (by decide) (fun _ => ?_) (fun h => absurd h (by decide))
    refine lv_ldc hx hb hown (htl _ ct_RX9_68) dX9_share_105 ?_
    refine va_iast hx hb hK hP hD hS 4 0 rfl rfl (by unfold vp_in; decide) dX9_share_107 (fun H locs hP hD hS => ?_)
    have hP : va_P G vwCl [(h0, .inr (9, [f_h0_0, f_h0_1, f_h0_2, f_h0_3, f_h0_4, f_h0_5, .ref hd, f_h0_7, .ref hf, f_h0_9, f_h0_10])), (aW, .inr (10, [f_aW_0, .ref aC, f_aW_2, f_aW_3, f_aW_4, f_aW_5, f_aW_6])), (aC, .inr (1, [f_aC_0, f_aC_1, .int 0])), (hd, .inl (cs 0, 6, .inl g)), (hf, .inl (cs 0, 448, .inl (upd gf_14 3 1000000)))] H := hP
    have hD : va_D A [(h0, .inr (9, [f_h0_0, f_h0_1, f_h0_2, f_h0_3, f_h0_4, f_h0_5, .ref hd, f_h0_7, .ref hf, f_h0_9, f_h0_10])), (aW, .inr (10, [f_aW_0, .ref aC, f_aW_2, f_aW_3, f_aW_4, f_aW_5, f_aW_6])), (aC, .inr (1, [f_aC_0, f_aC_1, .int 0])), (hd, .inl (cs 0, 6, .inl g)), (hf, .inl (cs 0, 448, .inl (upd gf_14 3 1000000)))] := hD
    refine lv_iinc (v := 4) (lv' := [(8, .int 4), (7, .int 15), (6, .int 0), (0, .ref h0), (1, .ref aW), (2, .ref aA), (3, .long a), (5, .int (nI 4))]) hx hb dX9_share_108 hl (k := 0) rfl (by first | rfl | decide) (by decide) rfl (fun ls hl => ?_)
    refine lv_goto (tgt := 77) hx hb dX9_share_111 (by decide) ?_
    generalize (upd gf_14 3 1000000) = gf_15 at hP hD
    refine lv_iload hx hb dX9_share_77 (lv_at hl 0 rfl) ?_
    refine lv_iload hx hb dX9_share_79 (lv_at hl 1 rfl) ?_
    refine lv_icmp_gt (tgt := 114) hx hb dX9_share_81 (by decide) (fun h => absurd h (by decide)) (fun _ => ?_)
    refine lv_aload_n hx hb dX9_share_84 rfl (lv_at hl 3 rfl) ?_
    refine va_get (ci := 9) (v := .ref hf) (C := RX9) (T := TX9) (N := 11) hx hb htl inX9 hown hK hP 0 rfl rfl 8 (by decide) (htl _ fl_RX9_31) (fun _ h9 => h9) rfl dX9_share_85 ?_
    refine lv_iload hx hb dX9_share_88 (lv_at hl 2 rfl) ?_
    refine lv_bipush (v := 64) hx hb dX9_share_90 (by decide) ?_
    refine lv_imul hx hb dX9_share_92 ?_
    refine lv_topi (fun xv ex => ?_)
    obtain rfl : xv = 0 := ex.trans (by first | rfl | decide)
    refine lv_iload hx hb dX9_share_93 (lv_at hl 0 rfl) ?_
    refine lv_iadd hx hb dX9_share_95 ?_
    refine lv_topi (fun xv ex => ?_)
    obtain rfl : xv = 4 := ex.trans (by first | rfl | decide)
    refine lv_iload hx hb dX9_share_96 (lv_at hl 0 rfl) ?_
    refine lv_if_ne (tgt := 105) hx hb dX9_share_98 (by decide) (fun _ => ?_) (fun h => absurd h (by decide))
    refine lv_ldc hx hb hown (htl _ ct_RX9_68) dX9_share_105 ?_
    refine va_iast hx hb hK hP hD hS 4 0 rfl rfl (by unfold vp_in; decide) dX9_share_107 (fun H locs hP hD hS => ?_)
    have hP : va_P G vwCl [(h0, .inr (9, [f_h0_0, f_h0_1, f_h0_2, f_h0_3, f_h0_4, f_h0_5, .ref hd, f_h0_7, .ref hf, f_h0_9, f_h0_10])), (aW, .inr (10, [f_aW_0, .ref aC, f_aW_2, f_aW_3, f_aW_4, f_aW_5, f_aW_6])), (aC, .inr (1, [f_aC_0, f_aC_1, .int 0])), (hd, .inl (cs 0, 6, .inl g)), (hf, .inl (cs 0, 448, .inl (upd gf_15 4 1000000)))] H := hP
    have hD : va_D A [(h0, .inr (9, [f_h0_0, f_h0_1, f_h0_2, f_h0_3, f_h0_4, f_h0_5, .ref hd, f_h0_7, .ref hf, f_h0_9, f_h0_10])), (aW, .inr (10, [f_aW_0, .ref aC, f_aW_2, f_aW_3, f_aW_4, f_aW_5, f_aW_6])), (aC, .inr (1, [f_aC_0, f_aC_1, .int 0])), (hd, .inl (cs 0, 6, .inl g)), (hf, .inl (cs 0, 448, .inl (upd gf_15 4 1000000)))] := hD
    refine lv_iinc (v := 5) (lv' := [(8, .int 5), (7, .int 15), (6, .int 0), (0, .ref h0), (1, .ref aW), (2, .ref aA), (3, .long a), (5, .int (nI 4))]) hx hb dX9_share_108 hl (k := 0) rfl (by first | rfl | decide) (by decide) rfl (fun ls hl => ?_)
    refine lv_goto (tgt := 77) hx hb dX9_share_111 (by decide) ?_
    generalize (upd gf_15 4 1000000) = gf_16 at hP hD
    refine lv_iload hx hb dX9_share_77 (lv_at hl 0 rfl) ?_
    refine lv_iload hx hb dX9_share_79 (lv_at hl 1 rfl) ?_
    refine lv_icmp_gt (tgt := 114) hx hb dX9_share_81 (by decide) (fun h => absurd h (by decide)) (fun _ => ?_)
    refine lv_aload_n hx hb dX9_share_84 rfl (lv_at hl 3 rfl) ?_
    refine va_get (ci := 9) (v := .ref hf) (C := RX9) (T := TX9) (N := 11) hx hb htl inX9 hown hK hP 0 rfl rfl 8 (by decide) (htl _ fl_RX9_31) (fun _ h9 => h9) rfl dX9_share_85 ?_
    refine lv_iload hx hb dX9_share_88 (lv_at hl 2 rfl) ?_
    refine lv_bipush (v := 64) hx hb dX9_share_90 (by decide) ?_
    refine lv_imul hx hb dX9_share_92 ?_
    refine lv_topi (fun xv ex => ?_)
    obtain rfl : xv = 0 := ex.trans (by first | rfl | decide)
    refine lv_iload hx hb dX9_share_93 (lv_at hl 0 rfl) ?_
    refine lv_iadd hx hb dX9_share_95 ?_
    refine lv_topi (fun xv ex => ?_)
    obtain rfl : xv = 5 := ex.trans (by first | rfl | decide)
    refine lv_iload hx hb dX9_share_96 (lv_at hl 0 rfl) ?_
    refine lv_if_ne (tgt := 105) hx hb dX9_share_98 (by decide) (fun _ => ?_) (fun h => absurd h (by decide))
    refine lv_ldc hx hb hown (htl _ ct_RX9_68) dX9_share_105 ?_
    refine va_iast hx hb hK hP hD hS 4 0 rfl rfl (by unfold vp_in; decide) dX9_share_107 (fun H locs hP hD hS => ?_)
    have hP : va_P G vwCl [(h0, .inr (9, [f_h0_0, f_h0_1, f_h0_2, f_h0_3, f_h0_4, f_h0_5, .ref hd, f_h0_7, .ref hf, f_h0_9, f_h0_10])), (aW, .inr (10, [f_aW_0, .ref aC, f_aW_2, f_aW_3, f_aW_4, f_aW_5, f_aW_6])), (aC, .inr (1, [f_aC_0, f_aC_1, .int 0])), (hd, .inl (cs 0, 6, .inl g)), (hf, .inl (cs 0, 448, .inl (upd gf_16 5 1000000)))] H := hP
    have hD : va_D A [(h0, .inr (9, [f_h0_0, f_h0_1, f_h0_2, f_h0_3, f_h0_4, f_h0_5, .ref hd, f_h0_7, .ref hf, f_h0_9, f_h0_10])), (aW, .inr (10, [f_aW_0, .ref aC, f_aW_2, f_aW_3, f_aW_4, f_aW_5, f_aW_6])), (aC, .inr (1, [f_aC_0, f_aC_1, .int 0])), (hd, .inl (cs 0, 6, .inl g)), (hf, .inl (cs 0, 448, .inl (upd gf_16 5 1000000)))] := hD
    refine lv_iinc (v := 6) (lv' := [(8, .int 6), (7, .int 15), (6, .int 0), (0, .ref h0), (1, .ref aW), (2, .ref aA), (3, .long a), (5, .int (nI 4))]) hx hb dX9_share_108 hl (k := 0) rfl (by first | rfl | decide) (by decide) rfl (fun ls hl => ?_)
    refine lv_goto (tgt := 77) hx hb dX9_share_111 (by decide) ?_
    generalize (upd gf_16 5 1000000) = gf_17 at hP hD
    refine lv_iload hx hb dX9_share_77 (lv_at hl 0 rfl) ?_
    refine lv_iload hx hb dX9_share_79 (lv_at hl 1 rfl) ?_
    refine lv_icmp_gt (tgt := 114) hx hb dX9_share_81 (by decide) (fun h => absurd h (by decide)) (fun _ => ?_)
    refine lv_aload_n hx hb dX9_share_84 rfl (lv_at hl 3 rfl) ?_
    refine va_get (ci := 9) (v := .ref hf) (C := RX9) (T := TX9) (N := 11) hx hb htl inX9 hown hK hP 0 rfl rfl 8 (by decide) (htl _ fl_RX9_31) (fun _ h9 => h9) rfl dX9_share_85 ?_
    refine lv_iload hx hb dX9_share_88 (lv_at hl 2 rfl) ?_
    refine lv_bipush (v := 64) hx hb dX9_share_90 (by decide) ?_
    refine lv_imul hx hb dX9_share_92 ?_
    refine lv_topi (fun xv ex => ?_)
    obtain rfl : xv = 0 := ex.trans (by first | rfl | decide)
    refine lv_iload hx hb dX9_share_93 (lv_at hl 0 rfl) ?_
    refine lv_iadd hx hb dX9_share_95 ?_
    refine lv_topi (fun xv ex => ?_)
    obtain rfl : xv = 6 := ex.trans (by first | rfl | decide)
    refine lv_iload hx hb dX9_share_96 (lv_at hl 0 rfl) ?_
    refine lv_if_ne (tgt := 105) hx hb dX9_share_98 (by decide) (fun _ => ?_) (fun h => absurd h (by decide))
    refine lv_ldc hx hb hown (htl _ ct_RX9_68) dX9_share_105 ?_
    refine va_iast hx hb hK hP hD hS 4 0 rfl rfl (by unfold vp_in; decide) dX9_share_107 (fun H locs hP hD hS => ?_)
    have hP : va_P G vwCl [(h0, .inr (9, [f_h0_0, f_h0_1, f_h0_2, f_h0_3, f_h0_4, f_h0_5, .ref hd, f_h0_7, .ref hf, f_h0_9, f_h0_10])), (aW, .inr (10, [f_aW_0, .ref aC, f_aW_2, f_aW_3, f_aW_4, f_aW_5, f_aW_6])), (aC, .inr (1, [f_aC_0, f_aC_1, .int 0])), (hd, .inl (cs 0, 6, .inl g)), (hf, .inl (cs 0, 448, .inl (upd gf_17 6 1000000)))] H := hP
    have hD : va_D A [(h0, .inr (9, [f_h0_0, f_h0_1, f_h0_2, f_h0_3, f_h0_4, f_h0_5, .ref hd, f_h0_7, .ref hf, f_h0_9, f_h0_10])), (aW, .inr (10, [f_aW_0, .ref aC, f_aW_2, f_aW_3, f_aW_4, f_aW_5, f_aW_6])), (aC, .inr (1, [f_aC_0, f_aC_1, .int 0])), (hd, .inl (cs 0, 6, .inl g)), (hf, .inl (cs 0, 448, .inl (upd gf_17 6 1000000)))] := hD
    refine lv_iinc (v := 7) (lv' := [(8, .int 7), (7, .int 15), (6, .int 0), (0, .ref h0), (1, .ref aW), (2, .ref aA), (3, .long a), (5, .int (nI 4))]) hx hb dX9_share_108 hl (k := 0) rfl (by first | rfl | decide) (by decide) rfl (fun ls hl => ?_)
    refine lv_goto (tgt := 77) hx hb dX9_share_111 (by decide) ?_
    generalize (upd gf_17 6 1000000) = gf_18 at hP hD
    refine lv_iload hx hb dX9_share_77 (lv_at hl 0 rfl) ?_
    refine lv_iload hx hb dX9_share_79 (lv_at hl 1 rfl) ?_
    refine lv_icmp_gt (tgt := 114) hx hb dX9_share_81 (by decide) (fun h => absurd h (by decide)) (fun _ => ?_)
    refine lv_aload_n hx hb dX9_share_84 rfl (lv_at hl 3 rfl) ?_
    refine va_get (ci := 9) (v := .ref hf) (C := RX9) (T := TX9) (N := 11) hx hb htl inX9 hown hK hP 0 rfl rfl 8 (by decide) (htl _ fl_RX9_31) (fun _ h9 => h9) rfl dX9_share_85 ?_
    refine lv_iload hx hb dX9_share_88 (lv_at hl 2 rfl) ?_
    refine lv_bipush (v := 64) hx hb dX9_share_90 (by decide) ?_
    refine lv_imul hx hb dX9_share_92 ?_
    refine lv_topi (fun xv ex => ?_)
    obtain rfl : xv = 0 := ex.trans (by first | rfl | decide)
    refine lv_iload hx hb dX9_share_93 (lv_at hl 0 rfl) ?_
    refine lv_iadd hx hb dX9_share_95 ?_
    refine lv_topi (fun xv ex => ?_)
    obtain rfl : xv = 7 := ex.trans (by first | rfl | decide)
    refine lv_iload hx hb dX9_share_96 (lv_at hl 0 rfl) ?_
    refine lv_if_ne (tgt := 105) hx hb dX9_share_98 (by decide) (fun _ => ?_) (fun h => absurd h (by decide))
    refine lv_ldc hx hb hown (htl _ ct_RX9_68) dX9_share_105 ?_
    refine va_iast hx hb hK hP hD hS 4 0 rfl rfl (by unfold vp_in; decide) dX9_share_107 (fun H locs hP hD hS => ?_)
    have hP : va_P G vwCl [(h0, .inr (9, [f_h0_0, f_h0_1, f_h0_2, f_h0_3, f_h0_4, f_h0_5, .ref hd, f_h0_7, .ref hf, f_h0_9, f_h0_10])), (aW, .inr (10, [f_aW_0, .ref aC, f_aW_2, f_aW_3, f_aW_4, f_aW_5, f_aW_6])), (aC, .inr (1, [f_aC_0, f_aC_1, .int 0])), (hd, .inl (cs 0, 6, .inl g)), (hf, .inl (cs 0, 448, .inl (upd gf_18 7 1000000)))] H := hP
    have hD : va_D A [(h0, .inr (9, [f_h0_0, f_h0_1, f_h0_2, f_h0_3, f_h0_4, f_h0_5, .ref hd, f_h0_7, .ref hf, f_h0_9, f_h0_10])), (aW, .inr (10, [f_aW_0, .ref aC, f_aW_2, f_aW_3, f_aW_4, f_aW_5, f_aW_6])), (aC, .inr (1, [f_aC_0, f_aC_1, .int 0])), (hd, .inl (cs 0, 6, .inl g)), (hf, .inl (cs 0, 448, .inl (upd gf_18 7 1000000)))] := hD
    refine lv_iinc (v := 8) (lv' := [(8, .int 8), (7, .int 15), (6, .int 0), (0, .ref h0), (1, .ref aW), (2, .ref aA), (3, .long a), (5, .int (nI 4))]) hx hb dX9_share_108 hl (k := 0) rfl (by first | rfl | decide) (by decide) rfl (fun ls hl => ?_)
    refine lv_goto (tgt := 77) hx hb dX9_share_111 (by decide) ?_
    generalize (upd gf_18 7 1000000) = gf_19 at hP hD
    refine lv_iload hx hb dX9_share_77 (lv_at hl 0 rfl) ?_
    refine lv_iload hx hb dX9_share_79 (lv_at hl 1 rfl) ?_
    refine lv_icmp_gt (tgt := 114) hx hb dX9_share_81 (by decide) (fun h => absurd h (by decide)) (fun _ => ?_)
    refine lv_aload_n hx hb dX9_share_84 rfl (lv_at hl 3 rfl) ?_
    refine va_get (ci := 9) (v := .ref hf) (C := RX9) (T := TX9) (N := 11) hx hb htl inX9 hown hK hP 0 rfl rfl 8 (by decide) (htl _ fl_RX9_31) (fun _ h9 => h9) rfl dX9_share_85 ?_
    refine lv_iload hx hb dX9_share_88 (lv_at hl 2 rfl) ?_
    refine lv_bipush (v := 64) hx hb dX9_share_90 (by decide) ?_
    refine lv_imul hx hb dX9_share_92 ?_
    refine lv_topi (fun xv ex => ?_)
    obtain rfl : xv = 0 := ex.trans (by first | rfl | decide)
    refine lv_iload hx hb dX9_share_93 (lv_at hl 0 rfl) ?_
    refine lv_iadd hx hb dX9_share_95 ?_
    refine lv_topi (fun xv ex => ?_)
    obtain rfl : xv = 8 := ex.trans (by first | rfl | decide)
    refine lv_iload hx hb dX9_share_96 (lv_at hl 0 rfl) ?_
    refine lv_if_ne (tgt := 105) hx hb dX9_share_98 (by decide) (fun _ => ?_) (fun h => absurd h (by decide))
    refine lv_ldc hx hb hown (htl _ ct_RX9_68) dX9_share_105 ?_
    refine va_iast hx hb hK hP hD hS 4 0 rfl rfl (by unfold vp_in; decide) dX9_share_107 (fun H locs hP hD hS => ?_)
    have hP : va_P G vwCl [(h0, .inr (9, [f_h0_0, f_h0_1, f_h0_2, f_h0_3, f_h0_4, f_h0_5, .ref hd, f_h0_7, .ref hf, f_h0_9, f_h0_10])), (aW, .inr (10, [f_aW_0, .ref aC, f_aW_2, f_aW_3, f_aW_4, f_aW_5, f_aW_6])), (aC, .inr (1, [f_aC_0, f_aC_1, .int 0])), (hd, .inl (cs 0, 6, .inl g)), (hf, .inl (cs 0, 448, .inl (upd gf_19 8 1000000)))] H := hP
    have hD : va_D A [(h0, .inr (9, [f_h0_0, f_h0_1, f_h0_2, f_h0_3, f_h0_4, f_h0_5, .ref hd, f_h0_7, .ref hf, f_h0_9, f_h0_10])), (aW, .inr (10, [f_aW_0, .ref aC, f_aW_2, f_aW_3, f_aW_4, f_aW_5, f_aW_6])), (aC, .inr (1, [f_aC_0, f_aC_1, .int 0])), (hd, .inl (cs 0, 6, .inl g)), (hf, .inl (cs 0, 448, .inl (upd gf_19 8 1000000)))] := hD
    refine lv_iinc (v := 9) (lv' := [(8, .int 9), (7, .int 15), (6, .int 0), (0, .ref h0), (1, .ref aW), (2, .ref aA), (3, .long a), (5, .int (nI 4))]) hx hb dX9_share_108 hl (k := 0) rfl (by first | rfl | decide) (by decide) rfl (fun ls hl => ?_)
    refine lv_goto (tgt := 77) hx hb dX9_share_111 (by decide) ?_
    generalize (upd gf_19 8 1000000) = gf_20 at hP hD
    refine lv_iload hx hb dX9_share_77 (lv_at hl 0 rfl) ?_
    refine lv_iload hx hb dX9_share_79 (lv_at hl 1 rfl) ?_
    refine lv_icmp_gt (tgt := 114) hx hb dX9_share_81 (by decide) (fun h => absurd h (by decide)) (fun _ => ?_)
    refine lv_aload_n hx hb dX9_share_84 rfl (lv_at hl 3 rfl) ?_
    refine va_get (ci := 9) (v := .ref hf) (C := RX9) (T := TX9) (N := 11) hx hb htl inX9 hown hK hP 0 rfl rfl 8 (by decide) (htl _ fl_RX9_31) (fun _ h9 => h9) rfl dX9_share_85 ?_
    refine lv_iload hx hb dX9_share_88 (lv_at hl 2 rfl) ?_
    refine lv_bipush (v := 64) hx hb dX9_share_90 (by decide) ?_
    refine lv_imul hx hb dX9_share_92 ?_
    refine lv_topi (fun xv ex => ?_)
    obtain rfl : xv = 0 := ex.trans (by first | rfl | decide)
    refine lv_iload hx hb dX9_share_93 (lv_at hl 0 rfl) ?_
    refine lv_iadd hx hb dX9_share_95 ?_
    refine lv_topi (fun xv ex => ?_)
    obtain rfl : xv = 9 := ex.trans (by first | rfl | decide)
    refine lv_iload hx hb dX9_share_96 (lv_at hl 0 rfl) ?_
    refine lv_if_ne (tgt := 105) hx hb dX9_share_98 (by decide) (fun _ => ?_) (fun h => absurd h (by decide))
    refine lv_ldc hx hb hown (htl _ ct_RX9_68) dX9_share_105 ?_
    refine va_iast hx hb hK hP hD hS 4 0 rfl rfl (by unfold vp_in; decide) dX9_share_107 (fun H locs hP hD hS => ?_)
    have hP : va_P G vwCl [(h0, .inr (9, [f_h0_0, f_h0_1, f_h0_2, f_h0_3, f_h0_4, f_h0_5, .ref hd, f_h0_7, .ref hf, f_h0_9, f_h0_10])), (aW, .inr (10, [f_aW_0, .ref aC, f_aW_2, f_aW_3, f_aW_4, f_aW_5, f_aW_6])), (aC, .inr (1, [f_aC_0, f_aC_1, .int 0])), (hd, .inl (cs 0, 6, .inl g)), (hf, .inl (cs 0, 448, .inl (upd gf_20 9 1000000)))] H := hP
    have hD : va_D A [(h0, .inr (9, [f_h0_0, f_h0_1, f_h0_2, f_h0_3, f_h0_4, f_h0_5, .ref hd, f_h0_7, .ref hf, f_h0_9, f_h0_10])), (aW, .inr (10, [f_aW_0, .ref aC, f_aW_2, f_aW_3, f_aW_4, f_aW_5, f_aW_6])), (aC, .inr (1, [f_aC_0, f_aC_1, .int 0])), (hd, .inl (cs 0, 6, .inl g)), (hf, .inl (cs 0, 448, .inl (upd gf_20 9 1000000)))] := hD
    refine lv_iinc (v := 10) (lv' := [(8, .int 10), (7, .int 15), (6, .int 0), (0, .ref h0), (1, .ref aW), (2, .ref aA), (3, .long a), (5, .int (nI 4))]) hx hb dX9_share_108 hl (k := 0) rfl (by first | rfl | decide) (by decide) rfl (fun ls hl => ?_)
    refine lv_goto (tgt := 77) hx hb dX9_share_111 (by decide) ?_
    generalize (upd gf_20 9 1000000) = gf_21 at hP hD
    refine lv_iload hx hb dX9_share_77 (lv_at hl 0 rfl) ?_
    refine lv_iload hx hb dX9_share_79 (lv_at hl 1 rfl) ?_
    refine lv_icmp_gt (tgt := 114) hx hb dX9_share_81 (by decide) (fun h => absurd h (by decide)) (fun _ => ?_)
    refine lv_aload_n hx hb dX9_share_84 rfl (lv_at hl 3 rfl) ?_
    refine va_get (ci := 9) (v := .ref hf) (C := RX9) (T := TX9) (N := 11) hx hb htl inX9 hown hK hP 0 rfl rfl 8 (by decide) (htl _ fl_RX9_31) (fun _ h9 => h9) rfl dX9_share_85 ?_
    refine lv_iload hx hb dX9_share_88 (lv_at hl 2 rfl) ?_
    refine lv_bipush (v := 64) hx hb dX9_share_90 (by decide) ?_
    refine lv_imul hx hb dX9_share_92 ?_
    refine lv_topi (fun xv ex => ?_)
    obtain rfl : xv = 0 := ex.trans (by first | rfl | decide)
    refine lv_iload hx hb dX9_share_93 (lv_at hl 0 rfl) ?_
    refine lv_iadd hx hb dX9_share_95 ?_
    refine lv_topi (fun xv ex => ?_)
    obtain rfl : xv = 10 := ex.trans (by first | rfl | decide)
    refine lv_iload hx hb dX9_share_96 (lv_at hl 0 rfl) ?_
    refine lv_if_ne (tgt := 105) hx hb dX9_share_98 (by decide) (fun _ => ?_) (fun h => absurd h (by decide))
    refine lv_ldc hx hb hown (htl _ ct_RX9_68) dX9_share_105 ?_
    refine va_iast hx hb hK hP hD hS 4 0 rfl rfl (by unfold vp_in; decide) dX9_share_107 (fun H locs hP hD hS => ?_)
    have hP : va_P G vwCl [(h0, .inr (9, [f_h0_0, f_h0_1, f_h0_2, f_h0_3, f_h0_4, f_h0_5, .ref hd, f_h0_7, .ref hf, f_h0_9, f_h0_10])), (aW, .inr (10, [f_aW_0, .ref aC, f_aW_2, f_aW_3, f_aW_4, f_aW_5, f_aW_6])), (aC, .inr (1, [f_aC_0, f_aC_1, .int 0])), (hd, .inl (cs 0, 6, .inl g)), (hf, .inl (cs 0, 448, .inl (upd gf_21 10 1000000)))] H := hP
    have hD : va_D A [(h0, .inr (9, [f_h0_0, f_h0_1, f_h0_2, f_h0_3, f_h0_4, f_h0_5, .ref hd, f_h0_7, .ref hf, f_h0_9, f_h0_10])), (aW, .inr (10, [f_aW_0, .ref aC, f_aW_2, f_aW_3, f_aW_4, f_aW_5, f_aW_6])), (aC, .inr (1, [f_aC_0, f_aC_1, .int 0])), (hd, .inl (cs 0, 6, .inl g)), (hf, .inl (cs 0, 448, .inl (upd gf_21 10 1000000)))] := hD
    refine lv_iinc (v := 11) (lv' := [(8, .int 11), (7, .int 15), (6, .int 0), (0, .ref h0), (1, .ref aW), (2, .ref aA), (3, .long a), (5, .int (nI 4))]) hx hb dX9_share_108 hl (k := 0) rfl (by first | rfl | decide) (by decide) rfl (fun ls hl => ?_)
    refine lv_goto (tgt := 77) hx hb dX9_share_111 (by decide) ?_
    generalize (upd gf_21 10 1000000) = gf_22 at hP hD
    refine lv_iload hx hb dX9_share_77 (lv_at hl 0 rfl) ?_
    refine lv_iload hx hb dX9_share_79 (lv_at hl 1 rfl) ?_
    refine lv_icmp_gt (tgt := 114) hx hb dX9_share_81 (by decide) (fun h => absurd h (by decide)) (fun _ => ?_)
    refine lv_aload_n hx hb dX9_share_84 rfl (lv_at hl 3 rfl) ?_
    refine va_get (ci := 9) (v := .ref hf) (C := RX9) (T := TX9) (N := 11) hx hb htl inX9 hown hK hP 0 rfl rfl 8 (by decide) (htl _ fl_RX9_31) (fun _ h9 => h9) rfl dX9_share_85 ?_
    refine lv_iload hx hb dX9_share_88 (lv_at hl 2 rfl) ?_
    refine lv_bipush (v := 64) hx hb dX9_share_90 (by decide) ?_
    refine lv_imul hx hb dX9_share_92 ?_
    refine lv_topi (fun xv ex => ?_)
    obtain rfl : xv = 0 := ex.trans (by first | rfl | decide)
    refine lv_iload hx hb dX9_share_93 (lv_at hl 0 rfl) ?_
    refine lv_iadd hx hb dX9_share_95 ?_
    refine lv_topi (fun xv ex => ?_)
    obtain rfl : xv = 11 := ex.trans (by first | rfl | decide)
    refine lv_iload hx hb dX9_share_96 (lv_at hl 0 rfl) ?_
    refine lv_if_ne (tgt := 105) hx hb dX9_share_98 (by decide) (fun _ => ?_) (fun h => absurd h (by decide))
    refine lv_ldc hx hb hown (htl _ ct_RX9_68) dX9_share_105 ?_
    refine va_iast hx hb hK hP hD hS 4 0 rfl rfl (by unfold vp_in; decide) dX9_share_107 (fun H locs hP hD hS => ?_)
    have hP : va_P G vwCl [(h0, .inr (9, [f_h0_0, f_h0_1, f_h0_2, f_h0_3, f_h0_4, f_h0_5, .ref hd, f_h0_7, .ref hf, f_h0_9, f_h0_10])), (aW, .inr (10, [f_aW_0, .ref aC, f_aW_2, f_aW_3, f_aW_4, f_aW_5, f_aW_6])), (aC, .inr (1, [f_aC_0, f_aC_1, .int 0])), (hd, .inl (cs 0, 6, .inl g)), (hf, .inl (cs 0, 448, .inl (upd gf_22 11 1000000)))] H := hP
    have hD : va_D A [(h0, .inr (9, [f_h0_0, f_h0_1, f_h0_2, f_h0_3, f_h0_4, f_h0_5, .ref hd, f_h0_7, .ref hf, f_h0_9, f_h0_10])), (aW, .inr (10, [f_aW_0, .ref aC, f_aW_2, f_aW_3, f_aW_4, f_aW_5, f_aW_6])), (aC, .inr (1, [f_aC_0, f_aC_1, .int 0])), (hd, .inl (cs 0, 6, .inl g)), (hf, .inl (cs 0, 448, .inl (upd gf_22 11 1000000)))] := hD
    refine lv_iinc (v := 12) (lv' := [(8, .int 12), (7, .int 15), (6, .int 0), (0, .ref h0), (1, .ref aW), (2, .ref aA), (3, .long a), (5, .int (nI 4))]) hx hb dX9_share_108 hl (k := 0) rfl (by first | rfl | decide) (by decide) rfl (fun ls hl => ?_)
    refine lv_goto (tgt := 77) hx hb dX9_share_111 (by decide) ?_
    generalize (upd gf_22 11 1000000) = gf_23 at hP hD
    refine lv_iload hx hb dX9_share_77 (lv_at hl 0 rfl) ?_
    refine lv_iload hx hb dX9_share_79 (lv_at hl 1 rfl) ?_
    refine lv_icmp_gt (tgt := 114) hx hb dX9_share_81 (by decide) (fun h => absurd h (by decide)) (fun _ => ?_)
    refine lv_aload_n hx hb dX9_share_84 rfl (lv_at hl 3 rfl) ?_
    refine va_get (ci := 9) (v := .ref hf) (C := RX9) (T := TX9) (N := 11) hx hb htl inX9 hown hK hP 0 rfl rfl 8 (by decide) (htl _ fl_RX9_31) (fun _ h9 => h9) rfl dX9_share_85 ?_
    refine lv_iload hx hb dX9_share_88 (lv_at hl 2 rfl) ?_
    refine lv_bipush (v := 64) hx hb dX9_share_90 (by decide) ?_
    refine lv_imul hx hb dX9_share_92 ?_
    refine lv_topi (fun xv ex => ?_)
    obtain rfl : xv = 0 := ex.trans (by first | rfl | decide)
    refine lv_iload hx hb dX9_share_93 (lv_at hl 0 rfl) ?_
    refine lv_iadd hx hb dX9_share_95 ?_
    refine lv_topi (fun xv ex => ?_)
    obtain rfl : xv = 12 := ex.trans (by first | rfl | decide)
    refine lv_iload hx hb dX9_share_96 (lv_at hl 0 rfl) ?_
    refine lv_if_ne (tgt := 105) hx hb dX9_share_98 (by decide) (fun _ => ?_) (fun h => absurd h (by decide))
    refine lv_ldc hx hb hown (htl _ ct_RX9_68) dX9_share_105 ?_
    refine va_iast hx hb hK hP hD hS 4 0 rfl rfl (by unfold vp_in; decide) dX9_share_107 (fun H locs hP hD hS => ?_)
    have hP : va_P G vwCl [(h0, .inr (9, [f_h0_0, f_h0_1, f_h0_2, f_h0_3, f_h0_4, f_h0_5, .ref hd, f_h0_7, .ref hf, f_h0_9, f_h0_10])), (aW, .inr (10, [f_aW_0, .ref aC, f_aW_2, f_aW_3, f_aW_4, f_aW_5, f_aW_6])), (aC, .inr (1, [f_aC_0, f_aC_1, .int 0])), (hd, .inl (cs 0, 6, .inl g)), (hf, .inl (cs 0, 448, .inl (upd gf_23 12 1000000)))] H := hP
    have hD : va_D A [(h0, .inr (9, [f_h0_0, f_h0_1, f_h0_2, f_h0_3, f_h0_4, f_h0_5, .ref hd, f_h0_7, .ref hf, f_h0_9, f_h0_10])), (aW, .inr (10, [f_aW_0, .ref aC, f_aW_2, f_aW_3, f_aW_4, f_aW_5, f_aW_6])), (aC, .inr (1, [f_aC_0, f_aC_1, .int 0])), (hd, .inl (cs 0, 6, .inl g)), (hf, .inl (cs 0, 448, .inl (upd gf_23 12 1000000)))] := hD
    refine lv_iinc (v := 13) (lv' := [(8, .int 13), (7, .int 15), (6, .int 0), (0, .ref h0), (1, .ref aW), (2, .ref aA), (3, .long a), (5, .int (nI 4))]) hx hb dX9_share_108 hl (k := 0) rfl (by first | rfl | decide) (by decide) rfl (fun ls hl => ?_)
    refine lv_goto (tgt := 77) hx hb dX9_share_111 (by decide) ?_
    generalize (upd gf_23 12 1000000) = gf_24 at hP hD
    refine lv_iload hx hb dX9_share_77 (lv_at hl 0 rfl) ?_
    refine lv_iload hx hb dX9_share_79 (lv_at hl 1 rfl) ?_
    refine lv_icmp_gt (tgt := 114) hx hb dX9_share_81 (by decide) (fun h => absurd h (by decide)) (fun _ => ?_)
    refine lv_aload_n hx hb dX9_share_84 rfl (lv_at hl 3 rfl) ?_
    refine va_get (ci := 9) (v := .ref hf) (C := RX9) (T := TX9) (N := 11) hx hb htl inX9 hown hK hP 0 rfl rfl 8 (by decide) (htl _ fl_RX9_31) (fun _ h9 => h9) rfl dX9_share_85 ?_
    refine lv_iload hx hb dX9_share_88 (lv_at hl 2 rfl) ?_
    refine lv_bipush (v := 64) hx hb dX9_share_90 (by decide) ?_
    refine lv_imul hx hb dX9_share_92 ?_
    refine lv_topi (fun xv ex => ?_)
    obtain rfl : xv = 0 := ex.trans (by first | rfl | decide)
    refine lv_iload hx hb dX9_share_93 (lv_at hl 0 rfl) ?_
    refine lv_iadd hx hb dX9_share_95 ?_
    refine lv_topi (fun xv ex => ?_)
    obtain rfl : xv = 13 := ex.trans (by first | rfl | decide)
    refine lv_iload hx hb dX9_share_96 (lv_at hl 0 rfl) ?_
    refine lv_if_ne (tgt := 105) hx hb dX9_share_98 (by decide) (fun _ => ?_) (fun h => absurd h (by decide))
    refine lv_ldc hx hb hown (htl _ ct_RX9_68) dX9_share_105 ?_
    refine va_iast hx hb hK hP hD hS 4 0 rfl rfl (by unfold vp_in; decide) dX9_share_107 (fun H locs hP hD hS => ?_)
    have hP : va_P G vwCl [(h0, .inr (9, [f_h0_0, f_h0_1, f_h0_2, f_h0_3, f_h0_4, f_h0_5, .ref hd, f_h0_7, .ref hf, f_h0_9, f_h0_10])), (aW, .inr (10, [f_aW_0, .ref aC, f_aW_2, f_aW_3, f_aW_4, f_aW_5, f_aW_6])), (aC, .inr (1, [f_aC_0, f_aC_1, .int 0])), (hd, .inl (cs 0, 6, .inl g)), (hf, .inl (cs 0, 448, .inl (upd gf_24 13 1000000)))] H := hP
    have hD : va_D A [(h0, .inr (9, [f_h0_0, f_h0_1, f_h0_2, f_h0_3, f_h0_4, f_h0_5, .ref hd, f_h0_7, .ref hf, f_h0_9, f_h0_10])), (aW, .inr (10, [f_aW_0, .ref aC, f_aW_2, f_aW_3, f_aW_4, f_aW_5, f_aW_6])), (aC, .inr (1, [f_aC_0, f_aC_1, .int 0])), (hd, .inl (cs 0, 6, .inl g)), (hf, .inl (cs 0, 448, .inl (upd gf_24 13 1000000)))] := hD
    refine lv_iinc (v := 14) (lv' := [(8, .int 14), (7, .int 15), (6, .int 0), (0, .ref h0), (1, .ref aW), (2, .ref aA), (3, .long a), (5, .int (nI 4))]) hx hb dX9_share_108 hl (k := 0) rfl (by first | rfl | decide) (by decide) rfl (fun ls hl => ?_)
    refine lv_goto (tgt := 77) hx hb dX9_share_111 (by decide) ?_
    generalize (upd gf_24 13 1000000) = gf_25 at hP hD
    refine lv_iload hx hb dX9_share_77 (lv_at hl 0 rfl) ?_
    refine lv_iload hx hb dX9_share_79 (lv_at hl 1 rfl) ?_
    refine lv_icmp_gt (tgt := 114) hx hb dX9_share_81 (by decide) (fun h => absurd h (by decide)) (fun _ => ?_)
    refine lv_aload_n hx hb dX9_share_84 rfl (lv_at hl 3 rfl) ?_
    refine va_get (ci := 9) (v := .ref hf) (C := RX9) (T := TX9) (N := 11) hx hb htl inX9 hown hK hP 0 rfl rfl 8 (by decide) (htl _ fl_RX9_31) (fun _ h9 => h9) rfl dX9_share_85 ?_
    refine lv_iload hx hb dX9_share_88 (lv_at hl 2 rfl) ?_
    refine lv_bipush (v := 64) hx hb dX9_share_90 (by decide) ?_
    refine lv_imul hx hb dX9_share_92 ?_
    refine lv_topi (fun xv ex => ?_)
    obtain rfl : xv = 0 := ex.trans (by first | rfl | decide)
    refine lv_iload hx hb dX9_share_93 (lv_at hl 0 rfl) ?_
    refine lv_iadd hx hb dX9_share_95 ?_
    refine lv_topi (fun xv ex => ?_)
    obtain rfl : xv = 14 := ex.trans (by first | rfl | decide)
    refine lv_iload hx hb dX9_share_96 (lv_at hl 0 rfl) ?_
    refine lv_if_ne (tgt := 105) hx hb dX9_share_98 (by decide) (fun _ => ?_) (fun h => absurd h (by decide))
    refine lv_ldc hx hb hown (htl _ ct_RX9_68) dX9_share_105 ?_
    refine va_iast hx hb hK hP hD hS 4 0 rfl rfl (by unfold vp_in; decide) dX9_share_107 (fun H locs hP hD hS => ?_)
    have hP : va_P G vwCl [(h0, .inr (9, [f_h0_0, f_h0_1, f_h0_2, f_h0_3, f_h0_4, f_h0_5, .ref hd, f_h0_7, .ref hf, f_h0_9, f_h0_10])), (aW, .inr (10, [f_aW_0, .ref aC, f_aW_2, f_aW_3, f_aW_4, f_aW_5, f_aW_6])), (aC, .inr (1, [f_aC_0, f_aC_1, .int 0])), (hd, .inl (cs 0, 6, .inl g)), (hf, .inl (cs 0, 448, .inl (upd gf_25 14 1000000)))] H := hP
    have hD : va_D A [(h0, .inr (9, [f_h0_0, f_h0_1, f_h0_2, f_h0_3, f_h0_4, f_h0_5, .ref hd, f_h0_7, .ref hf, f_h0_9, f_h0_10])), (aW, .inr (10, [f_aW_0, .ref aC, f_aW_2, f_aW_3, f_aW_4, f_aW_5, f_aW_6])), (aC, .inr (1, [f_aC_0, f_aC_1, .int 0])), (hd, .inl (cs 0, 6, .inl g)), (hf, .inl (cs 0, 448, .inl (upd gf_25 14 1000000)))] := hD
    refine lv_iinc (v := 15) (lv' := [(8, .int 15), (7, .int 15), (6, .int 0), (0, .ref h0), (1, .ref aW), (2, .ref aA), (3, .long a), (5, .int (nI 4))]) hx hb dX9_share_108 hl (k := 0) rfl (by first | rfl | decide) (by decide) rfl (fun ls hl => ?_)
    refine lv_goto (tgt := 77) hx hb dX9_share_111 (by decide) ?_
    generalize (upd gf_25 14 1000000) = gf_26 at hP hD
    refine lv_iload hx hb dX9_share_77 (lv_at hl 0 rfl) ?_
    refine lv_iload hx hb dX9_share_79 (lv_at hl 1 rfl) ?_
    refine lv_icmp_gt (tgt := 114) hx hb dX9_share_81 (by decide) (fun h => absurd h (by decide)) (fun _ => ?_)
    refine lv_aload_n hx hb dX9_share_84 rfl (lv_at hl 3 rfl) ?_
    refine va_get (ci := 9) (v := .ref hf) (C := RX9) (T := TX9) (N := 11) hx hb htl inX9 hown hK hP 0 rfl rfl 8 (by decide) (htl _ fl_RX9_31) (fun _ h9 => h9) rfl dX9_share_85 ?_
    refine lv_iload hx hb dX9_share_88 (lv_at hl 2 rfl) ?_
    refine lv_bipush (v := 64) hx hb dX9_share_90 (by decide) ?_
    refine lv_imul hx hb dX9_share_92 ?_
    refine lv_topi (fun xv ex => ?_)
    obtain rfl : xv = 0 := ex.trans (by first | rfl | decide)
    refine lv_iload hx hb dX9_share_93 (lv_at hl 0 rfl) ?_
    refine lv_iadd hx hb dX9_share_95 ?_
    refine lv_topi (fun xv ex => ?_)
    obtain rfl : xv = 15 := ex.trans (by first | rfl | decide)
    refine lv_iload hx hb dX9_share_96 (lv_at hl 0 rfl) ?_
    refine lv_if_ne (tgt := 105) hx hb dX9_share_98 (by decide) (fun _ => ?_) (fun h => absurd h (by decide))
    refine lv_ldc hx hb hown (htl _ ct_RX9_68) dX9_share_105 ?_
    refine va_iast hx hb hK hP hD hS 4 0 rfl rfl (by unfold vp_in; decide) dX9_share_107 (fun H locs hP hD hS => ?_)
    have hP : va_P G vwCl [(h0, .inr (9, [f_h0_0, f_h0_1, f_h0_2, f_h0_3, f_h0_4, f_h0_5, .ref hd, f_h0_7, .ref hf, f_h0_9, f_h0_10])), (aW, .inr (10, [f_aW_0, .ref aC, f_aW_2, f_aW_3, f_aW_4, f_aW_5, f_aW_6])), (aC, .inr (1, [f_aC_0, f_aC_1, .int 0])), (hd, .inl (cs 0, 6, .inl g)), (hf, .inl (cs 0, 448, .inl (upd gf_26 15 1000000)))] H := hP
    have hD : va_D A [(h0, .inr (9, [f_h0_0, f_h0_1, f_h0_2, f_h0_3, f_h0_4, f_h0_5, .ref hd, f_h0_7, .ref hf, f_h0_9, f_h0_10])), (aW, .inr (10, [f_aW_0, .ref aC, f_aW_2, f_aW_3, f_aW_4, f_aW_5, f_aW_6])), (aC, .inr (1, [f_aC_0, f_aC_1, .int 0])), (hd, .inl (cs 0, 6, .inl g)), (hf, .inl (cs 0, 448, .inl (upd gf_26 15 1000000)))] := hD
    refine lv_iinc (v := 16) (lv' := [(8, .int 16), (7, .int 15), (6, .int 0), (0, .ref h0), (1, .ref aW), (2, .ref aA), (3, .long a), (5, .int (nI 4))]) hx hb dX9_share_108 hl (k := 0) rfl (by first | rfl | decide) (by decide) rfl (fun ls hl => ?_)
    refine lv_goto (tgt := 77) hx hb dX9_share_111 (by decide) ?_
    refine lv_iload hx hb dX9_share_77 (lv_at hl 0 rfl) ?_
    refine lv_iload hx hb dX9_share_79 (lv_at hl 1 rfl) ?_
    refine lv_icmp_gt (tgt := 114) hx hb dX9_share_81 (by decide) (fun _ => ?_) (fun h => absurd (by decide) h)
    refine lv_iload hx hb dX9_share_114 (lv_at hl 2 rfl) ?_
    refine lv_iconst (v := 1) hx hb dX9_share_116 (by decide) ?_
    refine lv_isub hx hb dX9_share_117 ?_
    refine lv_topi (fun xv ex => ?_)
    obtain rfl : xv = (-1) := ex.trans (by first | rfl | decide)
    refine lv_istore (lv' := [(8, .int (-1)), (7, .int 15), (6, .int 0), (0, .ref h0), (1, .ref aW), (2, .ref aA), (3, .long a), (5, .int (nI 4))]) hx hb dX9_share_118 hl (by decide) rfl (fun ls hl => ?_)
    refine lv_iload hx hb dX9_share_120 (lv_at hl 0 rfl) ?_
    refine lv_if_lt (tgt := 170) hx hb dX9_share_122 (by decide) (fun _ => ?_) (fun h => absurd (by decide) h)
    refine lv_aload_n hx hb dX9_share_170 rfl (lv_at hl 3 rfl) ?_
    refine lv_aload_n hx hb dX9_share_171 rfl (lv_at hl 3 rfl) ?_
    refine va_get (ci := 9) (v := .ref hf) (C := RX9) (T := TX9) (N := 11) hx hb htl inX9 hown hK hP 0 rfl rfl 8 (by decide) (htl _ fl_RX9_31) (fun _ h9 => h9) rfl dX9_share_172 ?_
    refine lv_iload hx hb dX9_share_175 (lv_at hl 1 rfl) ?_
    refine va_iald hx hb hK hP 4 0 rfl rfl (by unfold vp_in; decide) dX9_share_177 ?_
    refine lv_topi (fun xv ex => ?_)
    obtain rfl : xv = 1000000 := ex.trans (by first | exact pk_us | rfl | decide)
    refine va_put (ci := 9) (v := .int 1000000) (ty := .int) (C := RX9) (T := TX9) (N := 11) hx hb htl inX9 tyX9 tyX9_ok nmX9 hown hK hP hD hS 0 rfl rfl 5 (by decide) (htl _ fl_RX9_92) (fun _ h9 => h9) rfl (by decide +kernel) (by first | rfl | decide) (by first | rfl | decide) (Nat.le_of_ble_eq_true rfl) dX9_share_178 (fun H locs hP hD hS => ?_)
    have hP : va_P G vwCl [(h0, .inr (9, [f_h0_0, f_h0_1, f_h0_2, f_h0_3, f_h0_4, .int 1000000, .ref hd, f_h0_7, .ref hf, f_h0_9, f_h0_10])), (aW, .inr (10, [f_aW_0, .ref aC, f_aW_2, f_aW_3, f_aW_4, f_aW_5, f_aW_6])), (aC, .inr (1, [f_aC_0, f_aC_1, .int 0])), (hd, .inl (cs 0, 6, .inl g)), (hf, .inl (cs 0, 448, .inl (upd gf_26 15 1000000)))] H := hP
    have hD : va_D A [(h0, .inr (9, [f_h0_0, f_h0_1, f_h0_2, f_h0_3, f_h0_4, .int 1000000, .ref hd, f_h0_7, .ref hf, f_h0_9, f_h0_10])), (aW, .inr (10, [f_aW_0, .ref aC, f_aW_2, f_aW_3, f_aW_4, f_aW_5, f_aW_6])), (aC, .inr (1, [f_aC_0, f_aC_1, .int 0])), (hd, .inl (cs 0, 6, .inl g)), (hf, .inl (cs 0, 448, .inl (upd gf_26 15 1000000)))] := hD
    refine lv_aload_n hx hb dX9_share_181 rfl (lv_at hl 3 rfl) ?_
    refine va_get (ci := 9) (v := .int 1000000) (C := RX9) (T := TX9) (N := 11) hx hb htl inX9 hown hK hP 0 rfl rfl 5 (by decide) (htl _ fl_RX9_92) (fun _ h9 => h9) rfl dX9_share_182 ?_
    refine lv_ldc hx hb hown (htl _ ct_RX9_68) dX9_share_185 ?_
    refine lv_icmp_lt (tgt := 192) hx hb dX9_share_187 (by decide) (fun h => absurd h (by decide)) (fun _ => ?_)
    refine lv_iconst (v := 0) hx hb dX9_share_190 (by decide) ?_
    exact W.zret (ty := .boolean) (v := 0) hx hb hr (by decide) (fun t ht hW => ⟨⟨0, (), rfl, ⟨rfl, (by decide)⟩, ⟨fun k q h => by simp at h, va_K.moved hW.alike hK, ⟨fun i j p q h => by simp at h, fun k q h => by simp at h⟩⟩⟩, hS.F ht⟩) hS.2.2 dX9_share_191
  · refine lv_aload_n hx hb dX9_share_49 rfl (lv_at hl 0 rfl) ?_
    refine lv_aload_n hx hb dX9_share_50 rfl (lv_at hl 1 rfl) ?_
    refine lv_aload_n hx hb dX9_share_51 rfl (lv_at hl 2 rfl) ?_
    refine lv_iload hx hb dX9_share_52 (lv_at hl 4 rfl) ?_
    refine va_csv (mkVr (rest := []) ⟨hx, hb, hml, hown, htl⟩ hN hK hP (c_X9_priceAll l G cs h0 aW aA (nI 5) f_h0_0 f_h0_1 f_h0_2 f_h0_3 f_h0_4 f_h0_5 (.ref hd) f_h0_7 (.ref hf) f_h0_9 f_h0_10 f_aW_0 aC f_aW_2 f_aW_3 f_aW_4 f_aW_5 f_aW_6 f_aC_0 f_aC_1) [0, 1, 2] rfl 0 9 rfl rfl (cV 3 htl lk_RX9_73 mI_X9_priceAll mS_X9_priceAll mN_RX9 mC_X9_priceAll ok_X9_priceAll rfl rfl ⟨(Nat.le_of_ble_eq_true rfl), (Nat.le_of_ble_eq_true rfl)⟩) rfl hl.1 rfl (Nat.le_of_ble_eq_true rfl) dX9_share_54 ⟨(Nat.le_of_ble_eq_true rfl), (Nat.le_of_ble_eq_true rfl)⟩) (fun _ => ?_)
    refine lv_aload_n hx hb dX9_share_57 rfl (lv_at hl 1 rfl) ?_
    refine va_get (ci := 10) (v := .ref aC) (C := RX10) (T := TX10) (N := 7) hx hb htl inX10 hown hK hP 1 rfl rfl 1 (by decide) (htl _ fl_RX9_77) (fun _ h9 => h9) rfl dX9_share_58 ?_
    refine va_get (ci := 1) (v := .int 0) (C := RX1) (T := TX1) (N := 3) hx hb htl inX1 hown hK hP 2 rfl rfl 2 (by decide) (htl _ fl_RX9_83) (fun _ h9 => h9) rfl dX9_share_61 ?_
    refine lv_istore (lv' := [(6, .int 0), (0, .ref h0), (1, .ref aW), (2, .ref aA), (3, .long a), (5, .int (nI 5))]) hx hb dX9_share_64 hl (by decide) rfl (fun ls hl => ?_)
    refine lv_iconst (v := 1) hx hb dX9_share_66 (by decide) ?_
    refine lv_iload hx hb dX9_share_67 (lv_at hl 5 rfl) ?_
    refine lv_ishl hx hb dX9_share_69 ?_
    refine lv_topi (fun xv ex => ?_)
    obtain rfl : xv = 32 := ex.trans (by first | rfl | decide)
    refine lv_iconst (v := 1) hx hb dX9_share_70 (by decide) ?_
    refine lv_isub hx hb dX9_share_71 ?_
    refine lv_topi (fun xv ex => ?_)
    obtain rfl : xv = 31 := ex.trans (by first | rfl | decide)
    refine lv_istore (lv' := [(7, .int 31), (6, .int 0), (0, .ref h0), (1, .ref aW), (2, .ref aA), (3, .long a), (5, .int (nI 5))]) hx hb dX9_share_72 hl (by decide) rfl (fun ls hl => ?_)
    refine lv_iconst (v := 0) hx hb dX9_share_74 (by decide) ?_
    refine lv_istore (lv' := [(8, .int 0), (7, .int 31), (6, .int 0), (0, .ref h0), (1, .ref aW), (2, .ref aA), (3, .long a), (5, .int (nI 5))]) hx hb dX9_share_75 hl (by decide) rfl (fun ls hl => ?_)
    refine lv_iload hx hb dX9_share_77 (lv_at hl 0 rfl) ?_
    refine lv_iload hx hb dX9_share_79 (lv_at hl 1 rfl) ?_
    refine lv_icmp_gt (tgt := 114) hx hb dX9_share_81 (by decide) (fun h => absurd h (by decide)) (fun _ => ?_)
    refine lv_aload_n hx hb dX9_share_84 rfl (lv_at hl 3 rfl) ?_
    refine va_get (ci := 9) (v := .ref hf) (C := RX9) (T := TX9) (N := 11) hx hb htl inX9 hown hK hP 0 rfl rfl 8 (by decide) (htl _ fl_RX9_31) (fun _ h9 => h9) rfl dX9_share_85 ?_
    refine lv_iload hx hb dX9_share_88 (lv_at hl 2 rfl) ?_
    refine lv_bipush (v := 64) hx hb dX9_share_90 (by decide) ?_
    refine lv_imul hx hb dX9_share_92 ?_
    refine lv_topi (fun xv ex => ?_)
    obtain rfl : xv = 0 := ex.trans (by first | rfl | decide)
    refine lv_iload hx hb dX9_share_93 (lv_at hl 0 rfl) ?_
    refine lv_iadd hx hb dX9_share_95 ?_
    refine lv_topi (fun xv ex => ?_)
    obtain rfl : xv = 0 := ex.trans (by first | rfl | decide)
    refine lv_iload hx hb dX9_share_96 (lv_at hl 0 rfl) ?_
    refine lv_if_ne (tgt := 105) hx hb dX9_share_98 (by decide) (fun h => absurd (by decide) h) (fun _ => ?_)
    refine lv_iconst (v := 0) hx hb dX9_share_101 (by decide) ?_
    refine lv_goto (tgt := 107) hx hb dX9_share_102 (by decide) ?_
    refine va_iast hx hb hK hP hD hS 4 0 rfl rfl (by unfold vp_in; decide) dX9_share_107 (fun H locs hP hD hS => ?_)
    have hP : va_P G vwCl [(h0, .inr (9, [f_h0_0, f_h0_1, f_h0_2, f_h0_3, f_h0_4, f_h0_5, .ref hd, f_h0_7, .ref hf, f_h0_9, f_h0_10])), (aW, .inr (10, [f_aW_0, .ref aC, f_aW_2, f_aW_3, f_aW_4, f_aW_5, f_aW_6])), (aC, .inr (1, [f_aC_0, f_aC_1, .int 0])), (hd, .inl (cs 0, 6, .inl g)), (hf, .inl (cs 0, 448, .inl (upd ff 0 0)))] H := hP
    have hD : va_D A [(h0, .inr (9, [f_h0_0, f_h0_1, f_h0_2, f_h0_3, f_h0_4, f_h0_5, .ref hd, f_h0_7, .ref hf, f_h0_9, f_h0_10])), (aW, .inr (10, [f_aW_0, .ref aC, f_aW_2, f_aW_3, f_aW_4, f_aW_5, f_aW_6])), (aC, .inr (1, [f_aC_0, f_aC_1, .int 0])), (hd, .inl (cs 0, 6, .inl g)), (hf, .inl (cs 0, 448, .inl (upd ff 0 0)))] := hD
    refine lv_iinc (v := 1) (lv' := [(8, .int 1), (7, .int 31), (6, .int 0), (0, .ref h0), (1, .ref aW), (2, .ref aA), (3, .long a), (5, .int (nI 5))]) hx hb dX9_share_108 hl (k := 0) rfl (by first | rfl | decide) (by decide) rfl (fun ls hl => ?_)
    refine lv_goto (tgt := 77) hx hb dX9_share_111 (by decide) ?_
    generalize (upd ff 0 0) = gf_27 at hP hD
    refine lv_iload hx hb dX9_share_77 (lv_at hl 0 rfl) ?_
    refine lv_iload hx hb dX9_share_79 (lv_at hl 1 rfl) ?_
    refine lv_icmp_gt (tgt := 114) hx hb dX9_share_81 (by decide) (fun h => absurd h (by decide)) (fun _ => ?_)
    refine lv_aload_n hx hb dX9_share_84 rfl (lv_at hl 3 rfl) ?_
    refine va_get (ci := 9) (v := .ref hf) (C := RX9) (T := TX9) (N := 11) hx hb htl inX9 hown hK hP 0 rfl rfl 8 (by decide) (htl _ fl_RX9_31) (fun _ h9 => h9) rfl dX9_share_85 ?_
    refine lv_iload hx hb dX9_share_88 (lv_at hl 2 rfl) ?_
    refine lv_bipush (v := 64) hx hb dX9_share_90 (by decide) ?_
    refine lv_imul hx hb dX9_share_92 ?_
    refine lv_topi (fun xv ex => ?_)
    obtain rfl : xv = 0 := ex.trans (by first | rfl | decide)
    refine lv_iload hx hb dX9_share_93 (lv_at hl 0 rfl) ?_
    refine lv_iadd hx hb dX9_share_95 ?_
    refine lv_topi (fun xv ex => ?_)
    obtain rfl : xv = 1 := ex.trans (by first | rfl | decide)
    refine lv_iload hx hb dX9_share_96 (lv_at hl 0 rfl) ?_
    refine lv_if_ne (tgt := 105) hx hb dX9_share_98 (by decide) (fun _ => ?_) (fun h => absurd h (by decide))
    refine lv_ldc hx hb hown (htl _ ct_RX9_68) dX9_share_105 ?_
    refine va_iast hx hb hK hP hD hS 4 0 rfl rfl (by unfold vp_in; decide) dX9_share_107 (fun H locs hP hD hS => ?_)
    have hP : va_P G vwCl [(h0, .inr (9, [f_h0_0, f_h0_1, f_h0_2, f_h0_3, f_h0_4, f_h0_5, .ref hd, f_h0_7, .ref hf, f_h0_9, f_h0_10])), (aW, .inr (10, [f_aW_0, .ref aC, f_aW_2, f_aW_3, f_aW_4, f_aW_5, f_aW_6])), (aC, .inr (1, [f_aC_0, f_aC_1, .int 0])), (hd, .inl (cs 0, 6, .inl g)), (hf, .inl (cs 0, 448, .inl (upd gf_27 1 1000000)))] H := hP
    have hD : va_D A [(h0, .inr (9, [f_h0_0, f_h0_1, f_h0_2, f_h0_3, f_h0_4, f_h0_5, .ref hd, f_h0_7, .ref hf, f_h0_9, f_h0_10])), (aW, .inr (10, [f_aW_0, .ref aC, f_aW_2, f_aW_3, f_aW_4, f_aW_5, f_aW_6])), (aC, .inr (1, [f_aC_0, f_aC_1, .int 0])), (hd, .inl (cs 0, 6, .inl g)), (hf, .inl (cs 0, 448, .inl (upd gf_27 1 1000000)))] := hD
    refine lv_iinc (v := 2) (lv' := [(8, .int 2), (7, .int 31), (6, .int 0), (0, .ref h0), (1, .ref aW), (2, .ref aA), (3, .long a), (5, .int (nI 5))]) hx hb dX9_share_108 hl (k := 0) rfl (by first | rfl | decide) (by decide) rfl (fun ls hl => ?_)
    refine lv_goto (tgt := 77) hx hb dX9_share_111 (by decide) ?_
    generalize (upd gf_27 1 1000000) = gf_28 at hP hD
    refine lv_iload hx hb dX9_share_77 (lv_at hl 0 rfl) ?_
    refine lv_iload hx hb dX9_share_79 (lv_at hl 1 rfl) ?_
    refine lv_icmp_gt (tgt := 114) hx hb dX9_share_81 (by decide) (fun h => absurd h (by decide)) (fun _ => ?_)
    refine lv_aload_n hx hb dX9_share_84 rfl (lv_at hl 3 rfl) ?_
    refine va_get (ci := 9) (v := .ref hf) (C := RX9) (T := TX9) (N := 11) hx hb htl inX9 hown hK hP 0 rfl rfl 8 (by decide) (htl _ fl_RX9_31) (fun _ h9 => h9) rfl dX9_share_85 ?_
    refine lv_iload hx hb dX9_share_88 (lv_at hl 2 rfl) ?_
    refine lv_bipush (v := 64) hx hb dX9_share_90 (by decide) ?_
    refine lv_imul hx hb dX9_share_92 ?_
    refine lv_topi (fun xv ex => ?_)
    obtain rfl : xv = 0 := ex.trans (by first | rfl | decide)
    refine lv_iload hx hb dX9_share_93 (lv_at hl 0 rfl) ?_
    refine lv_iadd hx hb dX9_share_95 ?_
    refine lv_topi (fun xv ex => ?_)
    obtain rfl : xv = 2 := ex.trans (by first | rfl | decide)
    refine lv_iload hx hb dX9_share_96 (lv_at hl 0 rfl) ?_
    refine lv_if_ne (tgt := 105) hx hb dX9_share_98 (by decide) (fun _ => ?_) (fun h => absurd h (by decide))
    refine lv_ldc hx hb hown (htl _ ct_RX9_68) dX9_share_105 ?_
    refine va_iast hx hb hK hP hD hS 4 0 rfl rfl (by unfold vp_in; decide) dX9_share_107 (fun H locs hP hD hS => ?_)
    have hP : va_P G vwCl [(h0, .inr (9, [f_h0_0, f_h0_1, f_h0_2, f_h0_3, f_h0_4, f_h0_5, .ref hd, f_h0_7, .ref hf, f_h0_9, f_h0_10])), (aW, .inr (10, [f_aW_0, .ref aC, f_aW_2, f_aW_3, f_aW_4, f_aW_5, f_aW_6])), (aC, .inr (1, [f_aC_0, f_aC_1, .int 0])), (hd, .inl (cs 0, 6, .inl g)), (hf, .inl (cs 0, 448, .inl (upd gf_28 2 1000000)))] H := hP
    have hD : va_D A [(h0, .inr (9, [f_h0_0, f_h0_1, f_h0_2, f_h0_3, f_h0_4, f_h0_5, .ref hd, f_h0_7, .ref hf, f_h0_9, f_h0_10])), (aW, .inr (10, [f_aW_0, .ref aC, f_aW_2, f_aW_3, f_aW_4, f_aW_5, f_aW_6])), (aC, .inr (1, [f_aC_0, f_aC_1, .int 0])), (hd, .inl (cs 0, 6, .inl g)), (hf, .inl (cs 0, 448, .inl (upd gf_28 2 1000000)))] := hD
    refine lv_iinc (v := 3) (lv' := [(8, .int 3), (7, .int 31), (6, .int 0), (0, .ref h0), (1, .ref aW), (2, .ref aA), (3, .long a), (5, .int (nI 5))]) hx hb dX9_share_108 hl (k := 0) rfl (by first | rfl | decide) (by decide) rfl (fun ls hl => ?_)
    refine lv_goto (tgt := 77) hx hb dX9_share_111 (by decide) ?_
    generalize (upd gf_28 2 1000000) = gf_29 at hP hD
    refine lv_iload hx hb dX9_share_77 (lv_at hl 0 rfl) ?_
    refine lv_iload hx hb dX9_share_79 (lv_at hl 1 rfl) ?_
    refine lv_icmp_gt (tgt := 114) hx hb dX9_share_81 (by decide) (fun h => absurd h (by decide)) (fun _ => ?_)
    refine lv_aload_n hx hb dX9_share_84 rfl (lv_at hl 3 rfl) ?_
    refine va_get (ci := 9) (v := .ref hf) (C := RX9) (T := TX9) (N := 11) hx hb htl inX9 hown hK hP 0 rfl rfl 8 (by decide) (htl _ fl_RX9_31) (fun _ h9 => h9) rfl dX9_share_85 ?_
    refine lv_iload hx hb dX9_share_88 (lv_at hl 2 rfl) ?_
    refine lv_bipush (v := 64) hx hb dX9_share_90 (by decide) ?_
    refine lv_imul hx hb dX9_share_92 ?_
    refine lv_topi (fun xv ex => ?_)
    obtain rfl : xv = 0 := ex.trans (by first | rfl | decide)
    refine lv_iload hx hb dX9_share_93 (lv_at hl 0 rfl) ?_
    refine lv_iadd hx hb dX9_share_95 ?_
    refine lv_topi (fun xv ex => ?_)
    obtain rfl : xv = 3 := ex.trans (by first | rfl | decide)
    refine lv_iload hx hb dX9_share_96 (lv_at hl 0 rfl) ?_
    refine lv_if_ne (tgt := 105) hx hb dX9_share_98 (by decide) (fun _ => ?_) (fun h => absurd h (by decide))
    refine lv_ldc hx hb hown (htl _ ct_RX9_68) dX9_share_105 ?_
    refine va_iast hx hb hK hP hD hS 4 0 rfl rfl (by unfold vp_in; decide) dX9_share_107 (fun H locs hP hD hS => ?_)
    have hP : va_P G vwCl [(h0, .inr (9, [f_h0_0, f_h0_1, f_h0_2, f_h0_3, f_h0_4, f_h0_5, .ref hd, f_h0_7, .ref hf, f_h0_9, f_h0_10])), (aW, .inr (10, [f_aW_0, .ref aC, f_aW_2, f_aW_3, f_aW_4, f_aW_5, f_aW_6])), (aC, .inr (1, [f_aC_0, f_aC_1, .int 0])), (hd, .inl (cs 0, 6, .inl g)), (hf, .inl (cs 0, 448, .inl (upd gf_29 3 1000000)))] H := hP
    have hD : va_D A [(h0, .inr (9, [f_h0_0, f_h0_1, f_h0_2, f_h0_3, f_h0_4, f_h0_5, .ref hd, f_h0_7, .ref hf, f_h0_9, f_h0_10])), (aW, .inr (10, [f_aW_0, .ref aC, f_aW_2, f_aW_3, f_aW_4, f_aW_5, f_aW_6])), (aC, .inr (1, [f_aC_0, f_aC_1, .int 0])), (hd, .inl (cs 0, 6, .inl g)), (hf, .inl (cs 0, 448, .inl (upd gf_29 3 1000000)))] := hD
    refine lv_iinc (v := 4) (lv' := [(8, .int 4), (7, .int 31), (6, .int 0), (0, .ref h0), (1, .ref aW), (2, .ref aA), (3, .long a), (5, .int (nI 5))]) hx hb dX9_share_108 hl (k := 0) rfl (by first | rfl | decide) (by decide) rfl (fun ls hl => ?_)
    refine lv_goto (tgt := 77) hx hb dX9_share_111 (by decide) ?_
    generalize (upd gf_29 3 1000000) = gf_30 at hP hD
    refine lv_iload hx hb dX9_share_77 (lv_at hl 0 rfl) ?_
    refine lv_iload hx hb dX9_share_79 (lv_at hl 1 rfl) ?_
    refine lv_icmp_gt (tgt := 114) hx hb dX9_share_81 (by decide) (fun h => absurd h (by decide)) (fun _ => ?_)
    refine lv_aload_n hx hb dX9_share_84 rfl (lv_at hl 3 rfl) ?_
    refine va_get (ci := 9) (v := .ref hf) (C := RX9) (T := TX9) (N := 11) hx hb htl inX9 hown hK hP 0 rfl rfl 8 (by decide) (htl _ fl_RX9_31) (fun _ h9 => h9) rfl dX9_share_85 ?_
    refine lv_iload hx hb dX9_share_88 (lv_at hl 2 rfl) ?_
    refine lv_bipush (v := 64) hx hb dX9_share_90 (by decide) ?_
    refine lv_imul hx hb dX9_share_92 ?_
    refine lv_topi (fun xv ex => ?_)
    obtain rfl : xv = 0 := ex.trans (by first | rfl | decide)
    refine lv_iload hx hb dX9_share_93 (lv_at hl 0 rfl) ?_
    refine lv_iadd hx hb dX9_share_95 ?_
    refine lv_topi (fun xv ex => ?_)
    obtain rfl : xv = 4 := ex.trans (by first | rfl | decide)
    refine lv_iload hx hb dX9_share_96 (lv_at hl 0 rfl) ?_
    refine lv_if_ne (tgt := 105) hx hb dX9_share_98 (by decide) (fun _ => ?_) (fun h => absurd h (by decide))
    refine lv_ldc hx hb hown (htl _ ct_RX9_68) dX9_share_105 ?_
    refine va_iast hx hb hK hP hD hS 4 0 rfl rfl (by unfold vp_in; decide) dX9_share_107 (fun H locs hP hD hS => ?_)
    have hP : va_P G vwCl [(h0, .inr (9, [f_h0_0, f_h0_1, f_h0_2, f_h0_3, f_h0_4, f_h0_5, .ref hd, f_h0_7, .ref hf, f_h0_9, f_h0_10])), (aW, .inr (10, [f_aW_0, .ref aC, f_aW_2, f_aW_3, f_aW_4, f_aW_5, f_aW_6])), (aC, .inr (1, [f_aC_0, f_aC_1, .int 0])), (hd, .inl (cs 0, 6, .inl g)), (hf, .inl (cs 0, 448, .inl (upd gf_30 4 1000000)))] H := hP
    have hD : va_D A [(h0, .inr (9, [f_h0_0, f_h0_1, f_h0_2, f_h0_3, f_h0_4, f_h0_5, .ref hd, f_h0_7, .ref hf, f_h0_9, f_h0_10])), (aW, .inr (10, [f_aW_0, .ref aC, f_aW_2, f_aW_3, f_aW_4, f_aW_5, f_aW_6])), (aC, .inr (1, [f_aC_0, f_aC_1, .int 0])), (hd, .inl (cs 0, 6, .inl g)), (hf, .inl (cs 0, 448, .inl (upd gf_30 4 1000000)))] := hD
    refine lv_iinc (v := 5) (lv' := [(8, .int 5), (7, .int 31), (6, .int 0), (0, .ref h0), (1, .ref aW), (2, .ref aA), (3, .long a), (5, .int (nI 5))]) hx hb dX9_share_108 hl (k := 0) rfl (by first | rfl | decide) (by decide) rfl (fun ls hl => ?_)
    refine lv_goto (tgt := 77) hx hb dX9_share_111 (by decide) ?_
    generalize (upd gf_30 4 1000000) = gf_31 at hP hD
    refine lv_iload hx hb dX9_share_77 (lv_at hl 0 rfl) ?_
    refine lv_iload hx hb dX9_share_79 (lv_at hl 1 rfl) ?_
    refine lv_icmp_gt (tgt := 114) hx hb dX9_share_81 (by decide) (fun h => absurd h (by decide)) (fun _ => ?_)
    refine lv_aload_n hx hb dX9_share_84 rfl (lv_at hl 3 rfl) ?_
    refine va_get (ci := 9) (v := .ref hf) (C := RX9) (T := TX9) (N := 11) hx hb htl inX9 hown hK hP 0 rfl rfl 8 (by decide) (htl _ fl_RX9_31) (fun _ h9 => h9) rfl dX9_share_85 ?_
    refine lv_iload hx hb dX9_share_88 (lv_at hl 2 rfl) ?_
    refine lv_bipush (v := 64) hx hb dX9_share_90 (by decide) ?_
    refine lv_imul hx hb dX9_share_92 ?_
    refine lv_topi (fun xv ex => ?_)
    obtain rfl : xv = 0 := ex.trans (by first | rfl | decide)
    refine lv_iload hx hb dX9_share_93 (lv_at hl 0 rfl) ?_
    refine lv_iadd hx hb dX9_share_95 ?_
    refine lv_topi (fun xv ex => ?_)
    obtain rfl : xv = 5 := ex.trans (by first | rfl | decide)
    refine lv_iload hx hb dX9_share_96 (lv_at hl 0 rfl) ?_
    refine lv_if_ne (tgt := 105) hx hb dX9_share_98 (by decide) (fun _ => ?_) (fun h => absurd h (by decide))
    refine lv_ldc hx hb hown (htl _ ct_RX9_68) dX9_share_105 ?_
    refine va_iast hx hb hK hP hD hS 4 0 rfl rfl (by unfold vp_in; decide) dX9_share_107 (fun H locs hP hD hS => ?_)
    have hP : va_P G vwCl [(h0, .inr (9, [f_h0_0, f_h0_1, f_h0_2, f_h0_3, f_h0_4, f_h0_5, .ref hd, f_h0_7, .ref hf, f_h0_9, f_h0_10])), (aW, .inr (10, [f_aW_0, .ref aC, f_aW_2, f_aW_3, f_aW_4, f_aW_5, f_aW_6])), (aC, .inr (1, [f_aC_0, f_aC_1, .int 0])), (hd, .inl (cs 0, 6, .inl g)), (hf, .inl (cs 0, 448, .inl (upd gf_31 5 1000000)))] H := hP
    have hD : va_D A [(h0, .inr (9, [f_h0_0, f_h0_1, f_h0_2, f_h0_3, f_h0_4, f_h0_5, .ref hd, f_h0_7, .ref hf, f_h0_9, f_h0_10])), (aW, .inr (10, [f_aW_0, .ref aC, f_aW_2, f_aW_3, f_aW_4, f_aW_5, f_aW_6])), (aC, .inr (1, [f_aC_0, f_aC_1, .int 0])), (hd, .inl (cs 0, 6, .inl g)), (hf, .inl (cs 0, 448, .inl (upd gf_31 5 1000000)))] := hD
    refine lv_iinc (v := 6) (lv' := [(8, .int 6), (7, .int 31), (6, .int 0), (0, .ref h0), (1, .ref aW), (2, .ref aA), (3, .long a), (5, .int (nI 5))]) hx hb dX9_share_108 hl (k := 0) rfl (by first | rfl | decide) (by decide) rfl (fun ls hl => ?_)
    refine lv_goto (tgt := 77) hx hb dX9_share_111 (by decide) ?_
    generalize (upd gf_31 5 1000000) = gf_32 at hP hD
    refine lv_iload hx hb dX9_share_77 (lv_at hl 0 rfl) ?_
    refine lv_iload hx hb dX9_share_79 (lv_at hl 1 rfl) ?_
    refine lv_icmp_gt (tgt := 114) hx hb dX9_share_81 (by decide) (fun h => absurd h (by decide)) (fun _ => ?_)
    refine lv_aload_n hx hb dX9_share_84 rfl (lv_at hl 3 rfl) ?_
    refine va_get (ci := 9) (v := .ref hf) (C := RX9) (T := TX9) (N := 11) hx hb htl inX9 hown hK hP 0 rfl rfl 8 (by decide) (htl _ fl_RX9_31) (fun _ h9 => h9) rfl dX9_share_85 ?_
    refine lv_iload hx hb dX9_share_88 (lv_at hl 2 rfl) ?_
    refine lv_bipush (v := 64) hx hb dX9_share_90 (by decide) ?_
    refine lv_imul hx hb dX9_share_92 ?_
    refine lv_topi (fun xv ex => ?_)
    obtain rfl : xv = 0 := ex.trans (by first | rfl | decide)
    refine lv_iload hx hb dX9_share_93 (lv_at hl 0 rfl) ?_
    refine lv_iadd hx hb dX9_share_95 ?_
    refine lv_topi (fun xv ex => ?_)
    obtain rfl : xv = 6 := ex.trans (by first | rfl | decide)
    refine lv_iload hx hb dX9_share_96 (lv_at hl 0 rfl) ?_
    refine lv_if_ne (tgt := 105) hx hb dX9_share_98 (by decide) (fun _ => ?_) (fun h => absurd h (by decide))
    refine lv_ldc hx hb hown (htl _ ct_RX9_68) dX9_share_105 ?_
    refine va_iast hx hb hK hP hD hS 4 0 rfl rfl (by unfold vp_in; decide) dX9_share_107 (fun H locs hP hD hS => ?_)
    have hP : va_P G vwCl [(h0, .inr (9, [f_h0_0, f_h0_1, f_h0_2, f_h0_3, f_h0_4, f_h0_5, .ref hd, f_h0_7, .ref hf, f_h0_9, f_h0_10])), (aW, .inr (10, [f_aW_0, .ref aC, f_aW_2, f_aW_3, f_aW_4, f_aW_5, f_aW_6])), (aC, .inr (1, [f_aC_0, f_aC_1, .int 0])), (hd, .inl (cs 0, 6, .inl g)), (hf, .inl (cs 0, 448, .inl (upd gf_32 6 1000000)))] H := hP
    have hD : va_D A [(h0, .inr (9, [f_h0_0, f_h0_1, f_h0_2, f_h0_3, f_h0_4, f_h0_5, .ref hd, f_h0_7, .ref hf, f_h0_9, f_h0_10])), (aW, .inr (10, [f_aW_0, .ref aC, f_aW_2, f_aW_3, f_aW_4, f_aW_5, f_aW_6])), (aC, .inr (1, [f_aC_0, f_aC_1, .int 0])), (hd, .inl (cs 0, 6, .inl g)), (hf, .inl (cs 0, 448, .inl (upd gf_32 6 1000000)))] := hD
    refine lv_iinc (v := 7) (lv' := [(8, .int 7), (7, .int 31), (6, .int 0), (0, .ref h0), (1, .ref aW), (2, .ref aA), (3, .long a), (5, .int (nI 5))]) hx hb dX9_share_108 hl (k := 0) rfl (by first | rfl | decide) (by decide) rfl (fun ls hl => ?_)
    refine lv_goto (tgt := 77) hx hb dX9_share_111 (by decide) ?_
    generalize (upd gf_32 6 1000000) = gf_33 at hP hD
    refine lv_iload hx hb dX9_share_77 (lv_at hl 0 rfl) ?_
    refine lv_iload hx hb dX9_share_79 (lv_at hl 1 rfl) ?_
    refine lv_icmp_gt (tgt := 114) hx hb dX9_share_81 (by decide) (fun h => absurd h (by decide)) (fun _ => ?_)
    refine lv_aload_n hx hb dX9_share_84 rfl (lv_at hl 3 rfl) ?_
    refine va_get (ci := 9) (v := .ref hf) (C := RX9) (T := TX9) (N := 11) hx hb htl inX9 hown hK hP 0 rfl rfl 8 (by decide) (htl _ fl_RX9_31) (fun _ h9 => h9) rfl dX9_share_85 ?_
    refine lv_iload hx hb dX9_share_88 (lv_at hl 2 rfl) ?_
    refine lv_bipush (v := 64) hx hb dX9_share_90 (by decide) ?_
    refine lv_imul hx hb dX9_share_92 ?_
    refine lv_topi (fun xv ex => ?_)
    obtain rfl : xv = 0 := ex.trans (by first | rfl | decide)
    refine lv_iload hx hb dX9_share_93 (lv_at hl 0 rfl) ?_
    refine lv_iadd hx hb dX9_share_95 ?_
    refine lv_topi (fun xv ex => ?_)
    obtain rfl : xv = 7 := ex.trans (by first | rfl | decide)
    refine lv_iload hx hb dX9_share_96 (lv_at hl 0 rfl) ?_
    refine lv_if_ne (tgt := 105) hx hb dX9_share_98 (by decide) (fun _ => ?_) (fun h => absurd h (by decide))
    refine lv_ldc hx hb hown (htl _ ct_RX9_68) dX9_share_105 ?_
    refine va_iast hx hb hK hP hD hS 4 0 rfl rfl (by unfold vp_in; decide) dX9_share_107 (fun H locs hP hD hS => ?_)
    have hP : va_P G vwCl [(h0, .inr (9, [f_h0_0, f_h0_1, f_h0_2, f_h0_3, f_h0_4, f_h0_5, .ref hd, f_h0_7, .ref hf, f_h0_9, f_h0_10])), (aW, .inr (10, [f_aW_0, .ref aC, f_aW_2, f_aW_3, f_aW_4, f_aW_5, f_aW_6])), (aC, .inr (1, [f_aC_0, f_aC_1, .int 0])), (hd, .inl (cs 0, 6, .inl g)), (hf, .inl (cs 0, 448, .inl (upd gf_33 7 1000000)))] H := hP
    have hD : va_D A [(h0, .inr (9, [f_h0_0, f_h0_1, f_h0_2, f_h0_3, f_h0_4, f_h0_5, .ref hd, f_h0_7, .ref hf, f_h0_9, f_h0_10])), (aW, .inr (10, [f_aW_0, .ref aC, f_aW_2, f_aW_3, f_aW_4, f_aW_5, f_aW_6])), (aC, .inr (1, [f_aC_0, f_aC_1, .int 0])), (hd, .inl (cs 0, 6, .inl g)), (hf, .inl (cs 0, 448, .inl (upd gf_33 7 1000000)))] := hD
    refine lv_iinc (v := 8) (lv' := [(8, .int 8), (7, .int 31), (6, .int 0), (0, .ref h0), (1, .ref aW), (2, .ref aA), (3, .long a), (5, .int (nI 5))]) hx hb dX9_share_108 hl (k := 0) rfl (by first | rfl | decide) (by decide) rfl (fun ls hl => ?_)
    refine lv_goto (tgt := 77) hx hb dX9_share_111 (by decide) ?_
    generalize (upd gf_33 7 1000000) = gf_34 at hP hD
    refine lv_iload hx hb dX9_share_77 (lv_at hl 0 rfl) ?_
    refine lv_iload hx hb dX9_share_79 (lv_at hl 1 rfl) ?_
    refine lv_icmp_gt (tgt := 114) hx hb dX9_share_81 (by decide) (fun h => absurd h (by decide)) (fun _ => ?_)
    refine lv_aload_n hx hb dX9_share_84 rfl (lv_at hl 3 rfl) ?_
    refine va_get (ci := 9) (v := .ref hf) (C := RX9) (T := TX9) (N := 11) hx hb htl inX9 hown hK hP 0 rfl rfl 8 (by decide) (htl _ fl_RX9_31) (fun _ h9 => h9) rfl dX9_share_85 ?_
    refine lv_iload hx hb dX9_share_88 (lv_at hl 2 rfl) ?_
    refine lv_bipush (v := 64) hx hb dX9_share_90 (by decide) ?_
    refine lv_imul hx hb dX9_share_92 ?_
    refine lv_topi (fun xv ex => ?_)
    obtain rfl : xv = 0 := ex.trans (by first | rfl | decide)
    refine lv_iload hx hb dX9_share_93 (lv_at hl 0 rfl) ?_
    refine lv_iadd hx hb dX9_share_95 ?_
    refine lv_topi (fun xv ex => ?_)
    obtain rfl : xv = 8 := ex.trans (by first | rfl | decide)
    refine lv_iload hx hb dX9_share_96 (lv_at hl 0 rfl) ?_
    refine lv_if_ne (tgt := 105) hx hb dX9_share_98 (by decide) (fun _ => ?_) (fun h => absurd h (by decide))
    refine lv_ldc hx hb hown (htl _ ct_RX9_68) dX9_share_105 ?_
    refine va_iast hx hb hK hP hD hS 4 0 rfl rfl (by unfold vp_in; decide) dX9_share_107 (fun H locs hP hD hS => ?_)
    have hP : va_P G vwCl [(h0, .inr (9, [f_h0_0, f_h0_1, f_h0_2, f_h0_3, f_h0_4, f_h0_5, .ref hd, f_h0_7, .ref hf, f_h0_9, f_h0_10])), (aW, .inr (10, [f_aW_0, .ref aC, f_aW_2, f_aW_3, f_aW_4, f_aW_5, f_aW_6])), (aC, .inr (1, [f_aC_0, f_aC_1, .int 0])), (hd, .inl (cs 0, 6, .inl g)), (hf, .inl (cs 0, 448, .inl (upd gf_34 8 1000000)))] H := hP
    have hD : va_D A [(h0, .inr (9, [f_h0_0, f_h0_1, f_h0_2, f_h0_3, f_h0_4, f_h0_5, .ref hd, f_h0_7, .ref hf, f_h0_9, f_h0_10])), (aW, .inr (10, [f_aW_0, .ref aC, f_aW_2, f_aW_3, f_aW_4, f_aW_5, f_aW_6])), (aC, .inr (1, [f_aC_0, f_aC_1, .int 0])), (hd, .inl (cs 0, 6, .inl g)), (hf, .inl (cs 0, 448, .inl (upd gf_34 8 1000000)))] := hD
    refine lv_iinc (v := 9) (lv' := [(8, .int 9), (7, .int 31), (6, .int 0), (0, .ref h0), (1, .ref aW), (2, .ref aA), (3, .long a), (5, .int (nI 5))]) hx hb dX9_share_108 hl (k := 0) rfl (by first | rfl | decide) (by decide) rfl (fun ls hl => ?_)
    refine lv_goto (tgt := 77) hx hb dX9_share_111 (by decide) ?_
    generalize (upd gf_34 8 1000000) = gf_35 at hP hD
    refine lv_iload hx hb dX9_share_77 (lv_at hl 0 rfl) ?_
    refine lv_iload hx hb dX9_share_79 (lv_at hl 1 rfl) ?_
    refine lv_icmp_gt (tgt := 114) hx hb dX9_share_81 (by decide) (fun h => absurd h (by decide)) (fun _ => ?_)
    refine lv_aload_n hx hb dX9_share_84 rfl (lv_at hl 3 rfl) ?_
    refine va_get (ci := 9) (v := .ref hf) (C := RX9) (T := TX9) (N := 11) hx hb htl inX9 hown hK hP 0 rfl rfl 8 (by decide) (htl _ fl_RX9_31) (fun _ h9 => h9) rfl dX9_share_85 ?_
    refine lv_iload hx hb dX9_share_88 (lv_at hl 2 rfl) ?_
    refine lv_bipush (v := 64) hx hb dX9_share_90 (by decide) ?_
    refine lv_imul hx hb dX9_share_92 ?_
    refine lv_topi (fun xv ex => ?_)
    obtain rfl : xv = 0 := ex.trans (by first | rfl | decide)
    refine lv_iload hx hb dX9_share_93 (lv_at hl 0 rfl) ?_
    refine lv_iadd hx hb dX9_share_95 ?_
    refine lv_topi (fun xv ex => ?_)
    obtain rfl : xv = 9 := ex.trans (by first | rfl | decide)
    refine lv_iload hx hb dX9_share_96 (lv_at hl 0 rfl) ?_
    refine lv_if_ne (tgt := 105) hx hb dX9_share_98 (by decide) (fun _ => ?_) (fun h => absurd h (by decide))
    refine lv_ldc hx hb hown (htl _ ct_RX9_68) dX9_share_105 ?_
    refine va_iast hx hb hK hP hD hS 4 0 rfl rfl (by unfold vp_in; decide) dX9_share_107 (fun H locs hP hD hS => ?_)
    have hP : va_P G vwCl [(h0, .inr (9, [f_h0_0, f_h0_1, f_h0_2, f_h0_3, f_h0_4, f_h0_5, .ref hd, f_h0_7, .ref hf, f_h0_9, f_h0_10])), (aW, .inr (10, [f_aW_0, .ref aC, f_aW_2, f_aW_3, f_aW_4, f_aW_5, f_aW_6])), (aC, .inr (1, [f_aC_0, f_aC_1, .int 0])), (hd, .inl (cs 0, 6, .inl g)), (hf, .inl (cs 0, 448, .inl (upd gf_35 9 1000000)))] H := hP
    have hD : va_D A [(h0, .inr (9, [f_h0_0, f_h0_1, f_h0_2, f_h0_3, f_h0_4, f_h0_5, .ref hd, f_h0_7, .ref hf, f_h0_9, f_h0_10])), (aW, .inr (10, [f_aW_0, .ref aC, f_aW_2, f_aW_3, f_aW_4, f_aW_5, f_aW_6])), (aC, .inr (1, [f_aC_0, f_aC_1, .int 0])), (hd, .inl (cs 0, 6, .inl g)), (hf, .inl (cs 0, 448, .inl (upd gf_35 9 1000000)))] := hD
    refine lv_iinc (v := 10) (lv' := [(8, .int 10), (7, .int 31), (6, .int 0), (0, .ref h0), (1, .ref aW), (2, .ref aA), (3, .long a), (5, .int (nI 5))]) hx hb dX9_share_108 hl (k := 0) rfl (by first | rfl | decide) (by decide) rfl (fun ls hl => ?_)
    refine lv_goto (tgt := 77) hx hb dX9_share_111 (by decide) ?_
    generalize (upd gf_35 9 1000000) = gf_36 at hP hD
    refine lv_iload hx hb dX9_share_77 (lv_at hl 0 rfl) ?_
    refine lv_iload hx hb dX9_share_79 (lv_at hl 1 rfl) ?_
    refine lv_icmp_gt (tgt := 114) hx hb dX9_share_81 (by decide) (fun h => absurd h (by decide)) (fun _ => ?_)
    refine lv_aload_n hx hb dX9_share_84 rfl (lv_at hl 3 rfl) ?_
    refine va_get (ci := 9) (v := .ref hf) (C := RX9) (T := TX9) (N := 11) hx hb htl inX9 hown hK hP 0 rfl rfl 8 (by decide) (htl _ fl_RX9_31) (fun _ h9 => h9) rfl dX9_share_85 ?_
    refine lv_iload hx hb dX9_share_88 (lv_at hl 2 rfl) ?_
    refine lv_bipush (v := 64) hx hb dX9_share_90 (by decide) ?_
    refine lv_imul hx hb dX9_share_92 ?_
    refine lv_topi (fun xv ex => ?_)
    obtain rfl : xv = 0 := ex.trans (by first | rfl | decide)
    refine lv_iload hx hb dX9_share_93 (lv_at hl 0 rfl) ?_
    refine lv_iadd hx hb dX9_share_95 ?_
    refine lv_topi (fun xv ex => ?_)
    obtain rfl : xv = 10 := ex.trans (by first | rfl | decide)
    refine lv_iload hx hb dX9_share_96 (lv_at hl 0 rfl) ?_
    refine lv_if_ne (tgt := 105) hx hb dX9_share_98 (by decide) (fun _ => ?_) (fun h => absurd h (by decide))
    refine lv_ldc hx hb hown (htl _ ct_RX9_68) dX9_share_105 ?_
    refine va_iast hx hb hK hP hD hS 4 0 rfl rfl (by unfold vp_in; decide) dX9_share_107 (fun H locs hP hD hS => ?_)
    have hP : va_P G vwCl [(h0, .inr (9, [f_h0_0, f_h0_1, f_h0_2, f_h0_3, f_h0_4, f_h0_5, .ref hd, f_h0_7, .ref hf, f_h0_9, f_h0_10])), (aW, .inr (10, [f_aW_0, .ref aC, f_aW_2, f_aW_3, f_aW_4, f_aW_5, f_aW_6])), (aC, .inr (1, [f_aC_0, f_aC_1, .int 0])), (hd, .inl (cs 0, 6, .inl g)), (hf, .inl (cs 0, 448, .inl (upd gf_36 10 1000000)))] H := hP
    have hD : va_D A [(h0, .inr (9, [f_h0_0, f_h0_1, f_h0_2, f_h0_3, f_h0_4, f_h0_5, .ref hd, f_h0_7, .ref hf, f_h0_9, f_h0_10])), (aW, .inr (10, [f_aW_0, .ref aC, f_aW_2, f_aW_3, f_aW_4, f_aW_5, f_aW_6])), (aC, .inr (1, [f_aC_0, f_aC_1, .int 0])), (hd, .inl (cs 0, 6, .inl g)), (hf, .inl (cs 0, 448, .inl (upd gf_36 10 1000000)))] := hD
    refine lv_iinc (v := 11) (lv' := [(8, .int 11), (7, .int 31), (6, .int 0), (0, .ref h0), (1, .ref aW), (2, .ref aA), (3, .long a), (5, .int (nI 5))]) hx hb dX9_share_108 hl (k := 0) rfl (by first | rfl | decide) (by decide) rfl (fun ls hl => ?_)
    refine lv_goto (tgt := 77) hx hb dX9_share_111 (by decide) ?_
    generalize (upd gf_36 10 1000000) = gf_37 at hP hD
    refine lv_iload hx hb dX9_share_77 (lv_at hl 0 rfl) ?_
    refine lv_iload hx hb dX9_share_79 (lv_at hl 1 rfl) ?_
    refine lv_icmp_gt (tgt := 114) hx hb dX9_share_81 (by decide) (fun h => absurd h (by decide)) (fun _ => ?_)
    refine lv_aload_n hx hb dX9_share_84 rfl (lv_at hl 3 rfl) ?_
    refine va_get (ci := 9) (v := .ref hf) (C := RX9) (T := TX9) (N := 11) hx hb htl inX9 hown hK hP 0 rfl rfl 8 (by decide) (htl _ fl_RX9_31) (fun _ h9 => h9) rfl dX9_share_85 ?_
    refine lv_iload hx hb dX9_share_88 (lv_at hl 2 rfl) ?_
    refine lv_bipush (v := 64) hx hb dX9_share_90 (by decide) ?_
    refine lv_imul hx hb dX9_share_92 ?_
    refine lv_topi (fun xv ex => ?_)
    obtain rfl : xv = 0 := ex.trans (by first | rfl | decide)
    refine lv_iload hx hb dX9_share_93 (lv_at hl 0 rfl) ?_
    refine lv_iadd hx hb dX9_share_95 ?_
    refine lv_topi (fun xv ex => ?_)
    obtain rfl : xv = 11 := ex.trans (by first | rfl | decide)
    refine lv_iload hx hb dX9_share_96 (lv_at hl 0 rfl) ?_
    refine lv_if_ne (tgt := 105) hx hb dX9_share_98 (by decide) (fun _ => ?_) (fun h => absurd h (by decide))
    refine lv_ldc hx hb hown (htl _ ct_RX9_68) dX9_share_105 ?_
    refine va_iast hx hb hK hP hD hS 4 0 rfl rfl (by unfold vp_in; decide) dX9_share_107 (fun H locs hP hD hS => ?_)
    have hP : va_P G vwCl [(h0, .inr (9, [f_h0_0, f_h0_1, f_h0_2, f_h0_3, f_h0_4, f_h0_5, .ref hd, f_h0_7, .ref hf, f_h0_9, f_h0_10])), (aW, .inr (10, [f_aW_0, .ref aC, f_aW_2, f_aW_3, f_aW_4, f_aW_5, f_aW_6])), (aC, .inr (1, [f_aC_0, f_aC_1, .int 0])), (hd, .inl (cs 0, 6, .inl g)), (hf, .inl (cs 0, 448, .inl (upd gf_37 11 1000000)))] H := hP
    have hD : va_D A [(h0, .inr (9, [f_h0_0, f_h0_1, f_h0_2, f_h0_3, f_h0_4, f_h0_5, .ref hd, f_h0_7, .ref hf, f_h0_9, f_h0_10])), (aW, .inr (10, [f_aW_0, .ref aC, f_aW_2, f_aW_3, f_aW_4, f_aW_5, f_aW_6])), (aC, .inr (1, [f_aC_0, f_aC_1, .int 0])), (hd, .inl (cs 0, 6, .inl g)), (hf, .inl (cs 0, 448, .inl (upd gf_37 11 1000000)))] := hD
    refine lv_iinc (v := 12) (lv' := [(8, .int 12), (7, .int 31), (6, .int 0), (0, .ref h0), (1, .ref aW), (2, .ref aA), (3, .long a), (5, .int (nI 5))]) hx hb dX9_share_108 hl (k := 0) rfl (by first | rfl | decide) (by decide) rfl (fun ls hl => ?_)
    refine lv_goto (tgt := 77) hx hb dX9_share_111 (by decide) ?_
    generalize (upd gf_37 11 1000000) = gf_38 at hP hD
    refine lv_iload hx hb dX9_share_77 (lv_at hl 0 rfl) ?_
    refine lv_iload hx hb dX9_share_79 (lv_at hl 1 rfl) ?_
    refine lv_icmp_gt (tgt := 114) hx hb dX9_share_81 (by decide) (fun h => absurd h (by decide)) (fun _ => ?_)
    refine lv_aload_n hx hb dX9_share_84 rfl (lv_at hl 3 rfl) ?_
    refine va_get (ci := 9) (v := .ref hf) (C := RX9) (T := TX9) (N := 11) hx hb htl inX9 hown hK hP 0 rfl rfl 8 (by decide) (htl _ fl_RX9_31) (fun _ h9 => h9) rfl dX9_share_85 ?_
    refine lv_iload hx hb dX9_share_88 (lv_at hl 2 rfl) ?_
    refine lv_bipush (v := 64) hx hb dX9_share_90 (by decide) ?_
    refine lv_imul hx hb dX9_share_92 ?_
    refine lv_topi (fun xv ex => ?_)
    obtain rfl : xv = 0 := ex.trans (by first | rfl | decide)
    refine lv_iload hx hb dX9_share_93 (lv_at hl 0 rfl) ?_
    refine lv_iadd hx hb dX9_share_95 ?_
    refine lv_topi (fun xv ex => ?_)
    obtain rfl : xv = 12 := ex.trans (by first | rfl | decide)
    refine lv_iload hx hb dX9_share_96 (lv_at hl 0 rfl) ?_
    refine lv_if_ne (tgt := 105) hx hb dX9_share_98 (by decide) (fun _ => ?_) (fun h => absurd h (by decide))
    refine lv_ldc hx hb hown (htl _ ct_RX9_68) dX9_share_105 ?_
    refine va_iast hx hb hK hP hD hS 4 0 rfl rfl (by unfold vp_in; decide) dX9_share_107 (fun H locs hP hD hS => ?_)
    have hP : va_P G vwCl [(h0, .inr (9, [f_h0_0, f_h0_1, f_h0_2, f_h0_3, f_h0_4, f_h0_5, .ref hd, f_h0_7, .ref hf, f_h0_9, f_h0_10])), (aW, .inr (10, [f_aW_0, .ref aC, f_aW_2, f_aW_3, f_aW_4, f_aW_5, f_aW_6])), (aC, .inr (1, [f_aC_0, f_aC_1, .int 0])), (hd, .inl (cs 0, 6, .inl g)), (hf, .inl (cs 0, 448, .inl (upd gf_38 12 1000000)))] H := hP
    have hD : va_D A [(h0, .inr (9, [f_h0_0, f_h0_1, f_h0_2, f_h0_3, f_h0_4, f_h0_5, .ref hd, f_h0_7, .ref hf, f_h0_9, f_h0_10])), (aW, .inr (10, [f_aW_0, .ref aC, f_aW_2, f_aW_3, f_aW_4, f_aW_5, f_aW_6])), (aC, .inr (1, [f_aC_0, f_aC_1, .int 0])), (hd, .inl (cs 0, 6, .inl g)), (hf, .inl (cs 0, 448, .inl (upd gf_38 12 1000000)))] := hD
    refine lv_iinc (v := 13) (lv' := [(8, .int 13), (7, .int 31), (6, .int 0), (0, .ref h0), (1, .ref aW), (2, .ref aA), (3, .long a), (5, .int (nI 5))]) hx hb dX9_share_108 hl (k := 0) rfl (by first | rfl | decide) (by decide) rfl (fun ls hl => ?_)
    refine lv_goto (tgt := 77) hx hb dX9_share_111 (by decide) ?_
    generalize (upd gf_38 12 1000000) = gf_39 at hP hD
    refine lv_iload hx hb dX9_share_77 (lv_at hl 0 rfl) ?_
    refine lv_iload hx hb dX9_share_79 (lv_at hl 1 rfl) ?_
    refine lv_icmp_gt (tgt := 114) hx hb dX9_share_81 (by decide) (fun h => absurd h (by decide)) (fun _ => ?_)
    refine lv_aload_n hx hb dX9_share_84 rfl (lv_at hl 3 rfl) ?_
    refine va_get (ci := 9) (v := .ref hf) (C := RX9) (T := TX9) (N := 11) hx hb htl inX9 hown hK hP 0 rfl rfl 8 (by decide) (htl _ fl_RX9_31) (fun _ h9 => h9) rfl dX9_share_85 ?_
    refine lv_iload hx hb dX9_share_88 (lv_at hl 2 rfl) ?_
    refine lv_bipush (v := 64) hx hb dX9_share_90 (by decide) ?_
    refine lv_imul hx hb dX9_share_92 ?_
    refine lv_topi (fun xv ex => ?_)
    obtain rfl : xv = 0 := ex.trans (by first | rfl | decide)
    refine lv_iload hx hb dX9_share_93 (lv_at hl 0 rfl) ?_
    refine lv_iadd hx hb dX9_share_95 ?_
    refine lv_topi (fun xv ex => ?_)
    obtain rfl : xv = 13 := ex.trans (by first | rfl | decide)
    refine lv_iload hx hb dX9_share_96 (lv_at hl 0 rfl) ?_
    refine lv_if_ne (tgt := 105) hx hb dX9_share_98 (by decide) (fun _ => ?_) (fun h => absurd h (by decide))
    refine lv_ldc hx hb hown (htl _ ct_RX9_68) dX9_share_105 ?_
    refine va_iast hx hb hK hP hD hS 4 0 rfl rfl (by unfold vp_in; decide) dX9_share_107 (fun H locs hP hD hS => ?_)
    have hP : va_P G vwCl [(h0, .inr (9, [f_h0_0, f_h0_1, f_h0_2, f_h0_3, f_h0_4, f_h0_5, .ref hd, f_h0_7, .ref hf, f_h0_9, f_h0_10])), (aW, .inr (10, [f_aW_0, .ref aC, f_aW_2, f_aW_3, f_aW_4, f_aW_5, f_aW_6])), (aC, .inr (1, [f_aC_0, f_aC_1, .int 0])), (hd, .inl (cs 0, 6, .inl g)), (hf, .inl (cs 0, 448, .inl (upd gf_39 13 1000000)))] H := hP
    have hD : va_D A [(h0, .inr (9, [f_h0_0, f_h0_1, f_h0_2, f_h0_3, f_h0_4, f_h0_5, .ref hd, f_h0_7, .ref hf, f_h0_9, f_h0_10])), (aW, .inr (10, [f_aW_0, .ref aC, f_aW_2, f_aW_3, f_aW_4, f_aW_5, f_aW_6])), (aC, .inr (1, [f_aC_0, f_aC_1, .int 0])), (hd, .inl (cs 0, 6, .inl g)), (hf, .inl (cs 0, 448, .inl (upd gf_39 13 1000000)))] := hD
    refine lv_iinc (v := 14) (lv' := [(8, .int 14), (7, .int 31), (6, .int 0), (0, .ref h0), (1, .ref aW), (2, .ref aA), (3, .long a), (5, .int (nI 5))]) hx hb dX9_share_108 hl (k := 0) rfl (by first | rfl | decide) (by decide) rfl (fun ls hl => ?_)
    refine lv_goto (tgt := 77) hx hb dX9_share_111 (by decide) ?_
    generalize (upd gf_39 13 1000000) = gf_40 at hP hD
    refine lv_iload hx hb dX9_share_77 (lv_at hl 0 rfl) ?_
    refine lv_iload hx hb dX9_share_79 (lv_at hl 1 rfl) ?_
    refine lv_icmp_gt (tgt := 114) hx hb dX9_share_81 (by decide) (fun h => absurd h (by decide)) (fun _ => ?_)
    refine lv_aload_n hx hb dX9_share_84 rfl (lv_at hl 3 rfl) ?_
    refine va_get (ci := 9) (v := .ref hf) (C := RX9) (T := TX9) (N := 11) hx hb htl inX9 hown hK hP 0 rfl rfl 8 (by decide) (htl _ fl_RX9_31) (fun _ h9 => h9) rfl dX9_share_85 ?_
    refine lv_iload hx hb dX9_share_88 (lv_at hl 2 rfl) ?_
    refine lv_bipush (v := 64) hx hb dX9_share_90 (by decide) ?_
    refine lv_imul hx hb dX9_share_92 ?_
    refine lv_topi (fun xv ex => ?_)
    obtain rfl : xv = 0 := ex.trans (by first | rfl | decide)
    refine lv_iload hx hb dX9_share_93 (lv_at hl 0 rfl) ?_
    refine lv_iadd hx hb dX9_share_95 ?_
    refine lv_topi (fun xv ex => ?_)
    obtain rfl : xv = 14 := ex.trans (by first | rfl | decide)
    refine lv_iload hx hb dX9_share_96 (lv_at hl 0 rfl) ?_
    refine lv_if_ne (tgt := 105) hx hb dX9_share_98 (by decide) (fun _ => ?_) (fun h => absurd h (by decide))
    refine lv_ldc hx hb hown (htl _ ct_RX9_68) dX9_share_105 ?_
    refine va_iast hx hb hK hP hD hS 4 0 rfl rfl (by unfold vp_in; decide) dX9_share_107 (fun H locs hP hD hS => ?_)
    have hP : va_P G vwCl [(h0, .inr (9, [f_h0_0, f_h0_1, f_h0_2, f_h0_3, f_h0_4, f_h0_5, .ref hd, f_h0_7, .ref hf, f_h0_9, f_h0_10])), (aW, .inr (10, [f_aW_0, .ref aC, f_aW_2, f_aW_3, f_aW_4, f_aW_5, f_aW_6])), (aC, .inr (1, [f_aC_0, f_aC_1, .int 0])), (hd, .inl (cs 0, 6, .inl g)), (hf, .inl (cs 0, 448, .inl (upd gf_40 14 1000000)))] H := hP
    have hD : va_D A [(h0, .inr (9, [f_h0_0, f_h0_1, f_h0_2, f_h0_3, f_h0_4, f_h0_5, .ref hd, f_h0_7, .ref hf, f_h0_9, f_h0_10])), (aW, .inr (10, [f_aW_0, .ref aC, f_aW_2, f_aW_3, f_aW_4, f_aW_5, f_aW_6])), (aC, .inr (1, [f_aC_0, f_aC_1, .int 0])), (hd, .inl (cs 0, 6, .inl g)), (hf, .inl (cs 0, 448, .inl (upd gf_40 14 1000000)))] := hD
    refine lv_iinc (v := 15) (lv' := [(8, .int 15), (7, .int 31), (6, .int 0), (0, .ref h0), (1, .ref aW), (2, .ref aA), (3, .long a), (5, .int (nI 5))]) hx hb dX9_share_108 hl (k := 0) rfl (by first | rfl | decide) (by decide) rfl (fun ls hl => ?_)
    refine lv_goto (tgt := 77) hx hb dX9_share_111 (by decide) ?_
    generalize (upd gf_40 14 1000000) = gf_41 at hP hD
    refine lv_iload hx hb dX9_share_77 (lv_at hl 0 rfl) ?_
    refine lv_iload hx hb dX9_share_79 (lv_at hl 1 rfl) ?_
    refine lv_icmp_gt (tgt := 114) hx hb dX9_share_81 (by decide) (fun h => absurd h (by decide)) (fun _ => ?_)
    refine lv_aload_n hx hb dX9_share_84 rfl (lv_at hl 3 rfl) ?_
    refine va_get (ci := 9) (v := .ref hf) (C := RX9) (T := TX9) (N := 11) hx hb htl inX9 hown hK hP 0 rfl rfl 8 (by decide) (htl _ fl_RX9_31) (fun _ h9 => h9) rfl dX9_share_85 ?_
    refine lv_iload hx hb dX9_share_88 (lv_at hl 2 rfl) ?_
    refine lv_bipush (v := 64) hx hb dX9_share_90 (by decide) ?_
    refine lv_imul hx hb dX9_share_92 ?_
    refine lv_topi (fun xv ex => ?_)
    obtain rfl : xv = 0 := ex.trans (by first | rfl | decide)
    refine lv_iload hx hb dX9_share_93 (lv_at hl 0 rfl) ?_
    refine lv_iadd hx hb dX9_share_95 ?_
    refine lv_topi (fun xv ex => ?_)
    obtain rfl : xv = 15 := ex.trans (by first | rfl | decide)
    refine lv_iload hx hb dX9_share_96 (lv_at hl 0 rfl) ?_
    refine lv_if_ne (tgt := 105) hx hb dX9_share_98 (by decide) (fun _ => ?_) (fun h => absurd h (by decide))
    refine lv_ldc hx hb hown (htl _ ct_RX9_68) dX9_share_105 ?_
    refine va_iast hx hb hK hP hD hS 4 0 rfl rfl (by unfold vp_in; decide) dX9_share_107 (fun H locs hP hD hS => ?_)
    have hP : va_P G vwCl [(h0, .inr (9, [f_h0_0, f_h0_1, f_h0_2, f_h0_3, f_h0_4, f_h0_5, .ref hd, f_h0_7, .ref hf, f_h0_9, f_h0_10])), (aW, .inr (10, [f_aW_0, .ref aC, f_aW_2, f_aW_3, f_aW_4, f_aW_5, f_aW_6])), (aC, .inr (1, [f_aC_0, f_aC_1, .int 0])), (hd, .inl (cs 0, 6, .inl g)), (hf, .inl (cs 0, 448, .inl (upd gf_41 15 1000000)))] H := hP
    have hD : va_D A [(h0, .inr (9, [f_h0_0, f_h0_1, f_h0_2, f_h0_3, f_h0_4, f_h0_5, .ref hd, f_h0_7, .ref hf, f_h0_9, f_h0_10])), (aW, .inr (10, [f_aW_0, .ref aC, f_aW_2, f_aW_3, f_aW_4, f_aW_5, f_aW_6])), (aC, .inr (1, [f_aC_0, f_aC_1, .int 0])), (hd, .inl (cs 0, 6, .inl g)), (hf, .inl (cs 0, 448, .inl (upd gf_41 15 1000000)))] := hD
    refine lv_iinc (v := 16) (lv' := [(8, .int 16), (7, .int 31), (6, .int 0), (0, .ref h0), (1, .ref aW), (2, .ref aA), (3, .long a), (5, .int (nI 5))]) hx hb dX9_share_108 hl (k := 0) rfl (by first | rfl | decide) (by decide) rfl (fun ls hl => ?_)
    refine lv_goto (tgt := 77) hx hb dX9_share_111 (by decide) ?_
    generalize (upd gf_41 15 1000000) = gf_42 at hP hD
    refine lv_iload hx hb dX9_share_77 (lv_at hl 0 rfl) ?_
    refine lv_iload hx hb dX9_share_79 (lv_at hl 1 rfl) ?_
    refine lv_icmp_gt (tgt := 114) hx hb dX9_share_81 (by decide) (fun h => absurd h (by decide)) (fun _ => ?_)
    refine lv_aload_n hx hb dX9_share_84 rfl (lv_at hl 3 rfl) ?_
    refine va_get (ci := 9) (v := .ref hf) (C := RX9) (T := TX9) (N := 11) hx hb htl inX9 hown hK hP 0 rfl rfl 8 (by decide) (htl _ fl_RX9_31) (fun _ h9 => h9) rfl dX9_share_85 ?_
    refine lv_iload hx hb dX9_share_88 (lv_at hl 2 rfl) ?_
    refine lv_bipush (v := 64) hx hb dX9_share_90 (by decide) ?_
    refine lv_imul hx hb dX9_share_92 ?_
    refine lv_topi (fun xv ex => ?_)
    obtain rfl : xv = 0 := ex.trans (by first | rfl | decide)
    refine lv_iload hx hb dX9_share_93 (lv_at hl 0 rfl) ?_
    refine lv_iadd hx hb dX9_share_95 ?_
    refine lv_topi (fun xv ex => ?_)
    obtain rfl : xv = 16 := ex.trans (by first | rfl | decide)
    refine lv_iload hx hb dX9_share_96 (lv_at hl 0 rfl) ?_
    refine lv_if_ne (tgt := 105) hx hb dX9_share_98 (by decide) (fun _ => ?_) (fun h => absurd h (by decide))
    refine lv_ldc hx hb hown (htl _ ct_RX9_68) dX9_share_105 ?_
    refine va_iast hx hb hK hP hD hS 4 0 rfl rfl (by unfold vp_in; decide) dX9_share_107 (fun H locs hP hD hS => ?_)
    have hP : va_P G vwCl [(h0, .inr (9, [f_h0_0, f_h0_1, f_h0_2, f_h0_3, f_h0_4, f_h0_5, .ref hd, f_h0_7, .ref hf, f_h0_9, f_h0_10])), (aW, .inr (10, [f_aW_0, .ref aC, f_aW_2, f_aW_3, f_aW_4, f_aW_5, f_aW_6])), (aC, .inr (1, [f_aC_0, f_aC_1, .int 0])), (hd, .inl (cs 0, 6, .inl g)), (hf, .inl (cs 0, 448, .inl (upd gf_42 16 1000000)))] H := hP
    have hD : va_D A [(h0, .inr (9, [f_h0_0, f_h0_1, f_h0_2, f_h0_3, f_h0_4, f_h0_5, .ref hd, f_h0_7, .ref hf, f_h0_9, f_h0_10])), (aW, .inr (10, [f_aW_0, .ref aC, f_aW_2, f_aW_3, f_aW_4, f_aW_5, f_aW_6])), (aC, .inr (1, [f_aC_0, f_aC_1, .int 0])), (hd, .inl (cs 0, 6, .inl g)), (hf, .inl (cs 0, 448, .inl (upd gf_42 16 1000000)))] := hD
    refine lv_iinc (v := 17) (lv' := [(8, .int 17), (7, .int 31), (6, .int 0), (0, .ref h0), (1, .ref aW), (2, .ref aA), (3, .long a), (5, .int (nI 5))]) hx hb dX9_share_108 hl (k := 0) rfl (by first | rfl | decide) (by decide) rfl (fun ls hl => ?_)
    refine lv_goto (tgt := 77) hx hb dX9_share_111 (by decide) ?_
    generalize (upd gf_42 16 1000000) = gf_43 at hP hD
    refine lv_iload hx hb dX9_share_77 (lv_at hl 0 rfl) ?_
    refine lv_iload hx hb dX9_share_79 (lv_at hl 1 rfl) ?_
    refine lv_icmp_gt (tgt := 114) hx hb dX9_share_81 (by decide) (fun h => absurd h (by decide)) (fun _ => ?_)
    refine lv_aload_n hx hb dX9_share_84 rfl (lv_at hl 3 rfl) ?_
    refine va_get (ci := 9) (v := .ref hf) (C := RX9) (T := TX9) (N := 11) hx hb htl inX9 hown hK hP 0 rfl rfl 8 (by decide) (htl _ fl_RX9_31) (fun _ h9 => h9) rfl dX9_share_85 ?_
    refine lv_iload hx hb dX9_share_88 (lv_at hl 2 rfl) ?_
    refine lv_bipush (v := 64) hx hb dX9_share_90 (by decide) ?_
    refine lv_imul hx hb dX9_share_92 ?_
    refine lv_topi (fun xv ex => ?_)
    obtain rfl : xv = 0 := ex.trans (by first | rfl | decide)
    refine lv_iload hx hb dX9_share_93 (lv_at hl 0 rfl) ?_
    refine lv_iadd hx hb dX9_share_95 ?_
    refine lv_topi (fun xv ex => ?_)
    obtain rfl : xv = 17 := ex.trans (by first | rfl | decide)
    refine lv_iload hx hb dX9_share_96 (lv_at hl 0 rfl) ?_
    refine lv_if_ne (tgt := 105) hx hb dX9_share_98 (by decide) (fun _ => ?_) (fun h => absurd h (by decide))
    refine lv_ldc hx hb hown (htl _ ct_RX9_68) dX9_share_105 ?_
    refine va_iast hx hb hK hP hD hS 4 0 rfl rfl (by unfold vp_in; decide) dX9_share_107 (fun H locs hP hD hS => ?_)
    have hP : va_P G vwCl [(h0, .inr (9, [f_h0_0, f_h0_1, f_h0_2, f_h0_3, f_h0_4, f_h0_5, .ref hd, f_h0_7, .ref hf, f_h0_9, f_h0_10])), (aW, .inr (10, [f_aW_0, .ref aC, f_aW_2, f_aW_3, f_aW_4, f_aW_5, f_aW_6])), (aC, .inr (1, [f_aC_0, f_aC_1, .int 0])), (hd, .inl (cs 0, 6, .inl g)), (hf, .inl (cs 0, 448, .inl (upd gf_43 17 1000000)))] H := hP
    have hD : va_D A [(h0, .inr (9, [f_h0_0, f_h0_1, f_h0_2, f_h0_3, f_h0_4, f_h0_5, .ref hd, f_h0_7, .ref hf, f_h0_9, f_h0_10])), (aW, .inr (10, [f_aW_0, .ref aC, f_aW_2, f_aW_3, f_aW_4, f_aW_5, f_aW_6])), (aC, .inr (1, [f_aC_0, f_aC_1, .int 0])), (hd, .inl (cs 0, 6, .inl g)), (hf, .inl (cs 0, 448, .inl (upd gf_43 17 1000000)))] := hD
    refine lv_iinc (v := 18) (lv' := [(8, .int 18), (7, .int 31), (6, .int 0), (0, .ref h0), (1, .ref aW), (2, .ref aA), (3, .long a), (5, .int (nI 5))]) hx hb dX9_share_108 hl (k := 0) rfl (by first | rfl | decide) (by decide) rfl (fun ls hl => ?_)
    refine lv_goto (tgt := 77) hx hb dX9_share_111 (by decide) ?_
    generalize (upd gf_43 17 1000000) = gf_44 at hP hD
    refine lv_iload hx hb dX9_share_77 (lv_at hl 0 rfl) ?_
    refine lv_iload hx hb dX9_share_79 (lv_at hl 1 rfl) ?_
    refine lv_icmp_gt (tgt := 114) hx hb dX9_share_81 (by decide) (fun h => absurd h (by decide)) (fun _ => ?_)
    refine lv_aload_n hx hb dX9_share_84 rfl (lv_at hl 3 rfl) ?_
    refine va_get (ci := 9) (v := .ref hf) (C := RX9) (T := TX9) (N := 11) hx hb htl inX9 hown hK hP 0 rfl rfl 8 (by decide) (htl _ fl_RX9_31) (fun _ h9 => h9) rfl dX9_share_85 ?_
    refine lv_iload hx hb dX9_share_88 (lv_at hl 2 rfl) ?_
    refine lv_bipush (v := 64) hx hb dX9_share_90 (by decide) ?_
    refine lv_imul hx hb dX9_share_92 ?_
    refine lv_topi (fun xv ex => ?_)
    obtain rfl : xv = 0 := ex.trans (by first | rfl | decide)
    refine lv_iload hx hb dX9_share_93 (lv_at hl 0 rfl) ?_
    refine lv_iadd hx hb dX9_share_95 ?_
    refine lv_topi (fun xv ex => ?_)
    obtain rfl : xv = 18 := ex.trans (by first | rfl | decide)
    refine lv_iload hx hb dX9_share_96 (lv_at hl 0 rfl) ?_
    refine lv_if_ne (tgt := 105) hx hb dX9_share_98 (by decide) (fun _ => ?_) (fun h => absurd h (by decide))
    refine lv_ldc hx hb hown (htl _ ct_RX9_68) dX9_share_105 ?_
    refine va_iast hx hb hK hP hD hS 4 0 rfl rfl (by unfold vp_in; decide) dX9_share_107 (fun H locs hP hD hS => ?_)
    have hP : va_P G vwCl [(h0, .inr (9, [f_h0_0, f_h0_1, f_h0_2, f_h0_3, f_h0_4, f_h0_5, .ref hd, f_h0_7, .ref hf, f_h0_9, f_h0_10])), (aW, .inr (10, [f_aW_0, .ref aC, f_aW_2, f_aW_3, f_aW_4, f_aW_5, f_aW_6])), (aC, .inr (1, [f_aC_0, f_aC_1, .int 0])), (hd, .inl (cs 0, 6, .inl g)), (hf, .inl (cs 0, 448, .inl (upd gf_44 18 1000000)))] H := hP
    have hD : va_D A [(h0, .inr (9, [f_h0_0, f_h0_1, f_h0_2, f_h0_3, f_h0_4, f_h0_5, .ref hd, f_h0_7, .ref hf, f_h0_9, f_h0_10])), (aW, .inr (10, [f_aW_0, .ref aC, f_aW_2, f_aW_3, f_aW_4, f_aW_5, f_aW_6])), (aC, .inr (1, [f_aC_0, f_aC_1, .int 0])), (hd, .inl (cs 0, 6, .inl g)), (hf, .inl (cs 0, 448, .inl (upd gf_44 18 1000000)))] := hD
    refine lv_iinc (v := 19) (lv' := [(8, .int 19), (7, .int 31), (6, .int 0), (0, .ref h0), (1, .ref aW), (2, .ref aA), (3, .long a), (5, .int (nI 5))]) hx hb dX9_share_108 hl (k := 0) rfl (by first | rfl | decide) (by decide) rfl (fun ls hl => ?_)
    refine lv_goto (tgt := 77) hx hb dX9_share_111 (by decide) ?_
    generalize (upd gf_44 18 1000000) = gf_45 at hP hD
    refine lv_iload hx hb dX9_share_77 (lv_at hl 0 rfl) ?_
    refine lv_iload hx hb dX9_share_79 (lv_at hl 1 rfl) ?_
    refine lv_icmp_gt (tgt := 114) hx hb dX9_share_81 (by decide) (fun h => absurd h (by decide)) (fun _ => ?_)
    refine lv_aload_n hx hb dX9_share_84 rfl (lv_at hl 3 rfl) ?_
    refine va_get (ci := 9) (v := .ref hf) (C := RX9) (T := TX9) (N := 11) hx hb htl inX9 hown hK hP 0 rfl rfl 8 (by decide) (htl _ fl_RX9_31) (fun _ h9 => h9) rfl dX9_share_85 ?_
    refine lv_iload hx hb dX9_share_88 (lv_at hl 2 rfl) ?_
    refine lv_bipush (v := 64) hx hb dX9_share_90 (by decide) ?_
    refine lv_imul hx hb dX9_share_92 ?_
    refine lv_topi (fun xv ex => ?_)
    obtain rfl : xv = 0 := ex.trans (by first | rfl | decide)
    refine lv_iload hx hb dX9_share_93 (lv_at hl 0 rfl) ?_
    refine lv_iadd hx hb dX9_share_95 ?_
    refine lv_topi (fun xv ex => ?_)
    obtain rfl : xv = 19 := ex.trans (by first | rfl | decide)
    refine lv_iload hx hb dX9_share_96 (lv_at hl 0 rfl) ?_
    refine lv_if_ne (tgt := 105) hx hb dX9_share_98 (by decide) (fun _ => ?_) (fun h => absurd h (by decide))
    refine lv_ldc hx hb hown (htl _ ct_RX9_68) dX9_share_105 ?_
    refine va_iast hx hb hK hP hD hS 4 0 rfl rfl (by unfold vp_in; decide) dX9_share_107 (fun H locs hP hD hS => ?_)
    have hP : va_P G vwCl [(h0, .inr (9, [f_h0_0, f_h0_1, f_h0_2, f_h0_3, f_h0_4, f_h0_5, .ref hd, f_h0_7, .ref hf, f_h0_9, f_h0_10])), (aW, .inr (10, [f_aW_0, .ref aC, f_aW_2, f_aW_3, f_aW_4, f_aW_5, f_aW_6])), (aC, .inr (1, [f_aC_0, f_aC_1, .int 0])), (hd, .inl (cs 0, 6, .inl g)), (hf, .inl (cs 0, 448, .inl (upd gf_45 19 1000000)))] H := hP
    have hD : va_D A [(h0, .inr (9, [f_h0_0, f_h0_1, f_h0_2, f_h0_3, f_h0_4, f_h0_5, .ref hd, f_h0_7, .ref hf, f_h0_9, f_h0_10])), (aW, .inr (10, [f_aW_0, .ref aC, f_aW_2, f_aW_3, f_aW_4, f_aW_5, f_aW_6])), (aC, .inr (1, [f_aC_0, f_aC_1, .int 0])), (hd, .inl (cs 0, 6, .inl g)), (hf, .inl (cs 0, 448, .inl (upd gf_45 19 1000000)))] := hD
    refine lv_iinc (v := 20) (lv' := [(8, .int 20), (7, .int 31), (6, .int 0), (0, .ref h0), (1, .ref aW), (2, .ref aA), (3, .long a), (5, .int (nI 5))]) hx hb dX9_share_108 hl (k := 0) rfl (by first | rfl | decide) (by decide) rfl (fun ls hl => ?_)
    refine lv_goto (tgt := 77) hx hb dX9_share_111 (by decide) ?_
    generalize (upd gf_45 19 1000000) = gf_46 at hP hD
    refine lv_iload hx hb dX9_share_77 (lv_at hl 0 rfl) ?_
    refine lv_iload hx hb dX9_share_79 (lv_at hl 1 rfl) ?_
    refine lv_icmp_gt (tgt := 114) hx hb dX9_share_81 (by decide) (fun h => absurd h (by decide)) (fun _ => ?_)
    refine lv_aload_n hx hb dX9_share_84 rfl (lv_at hl 3 rfl) ?_
    refine va_get (ci := 9) (v := .ref hf) (C := RX9) (T := TX9) (N := 11) hx hb htl inX9 hown hK hP 0 rfl rfl 8 (by decide) (htl _ fl_RX9_31) (fun _ h9 => h9) rfl dX9_share_85 ?_
    refine lv_iload hx hb dX9_share_88 (lv_at hl 2 rfl) ?_
    refine lv_bipush (v := 64) hx hb dX9_share_90 (by decide) ?_
    refine lv_imul hx hb dX9_share_92 ?_
    refine lv_topi (fun xv ex => ?_)
    obtain rfl : xv = 0 := ex.trans (by first | rfl | decide)
    refine lv_iload hx hb dX9_share_93 (lv_at hl 0 rfl) ?_
    refine lv_iadd hx hb dX9_share_95 ?_
    refine lv_topi (fun xv ex => ?_)
    obtain rfl : xv = 20 := ex.trans (by first | rfl | decide)
    refine lv_iload hx hb dX9_share_96 (lv_at hl 0 rfl) ?_
    refine lv_if_ne (tgt := 105) hx hb dX9_share_98 (by decide) (fun _ => ?_) (fun h => absurd h (by decide))
    refine lv_ldc hx hb hown (htl _ ct_RX9_68) dX9_share_105 ?_
    refine va_iast hx hb hK hP hD hS 4 0 rfl rfl (by unfold vp_in; decide) dX9_share_107 (fun H locs hP hD hS => ?_)
    have hP : va_P G vwCl [(h0, .inr (9, [f_h0_0, f_h0_1, f_h0_2, f_h0_3, f_h0_4, f_h0_5, .ref hd, f_h0_7, .ref hf, f_h0_9, f_h0_10])), (aW, .inr (10, [f_aW_0, .ref aC, f_aW_2, f_aW_3, f_aW_4, f_aW_5, f_aW_6])), (aC, .inr (1, [f_aC_0, f_aC_1, .int 0])), (hd, .inl (cs 0, 6, .inl g)), (hf, .inl (cs 0, 448, .inl (upd gf_46 20 1000000)))] H := hP
    have hD : va_D A [(h0, .inr (9, [f_h0_0, f_h0_1, f_h0_2, f_h0_3, f_h0_4, f_h0_5, .ref hd, f_h0_7, .ref hf, f_h0_9, f_h0_10])), (aW, .inr (10, [f_aW_0, .ref aC, f_aW_2, f_aW_3, f_aW_4, f_aW_5, f_aW_6])), (aC, .inr (1, [f_aC_0, f_aC_1, .int 0])), (hd, .inl (cs 0, 6, .inl g)), (hf, .inl (cs 0, 448, .inl (upd gf_46 20 1000000)))] := hD
    refine lv_iinc (v := 21) (lv' := [(8, .int 21), (7, .int 31), (6, .int 0), (0, .ref h0), (1, .ref aW), (2, .ref aA), (3, .long a), (5, .int (nI 5))]) hx hb dX9_share_108 hl (k := 0) rfl (by first | rfl | decide) (by decide) rfl (fun ls hl => ?_)
    refine lv_goto (tgt := 77) hx hb dX9_share_111 (by decide) ?_
    generalize (upd gf_46 20 1000000) = gf_47 at hP hD
    refine lv_iload hx hb dX9_share_77 (lv_at hl 0 rfl) ?_
    refine lv_iload hx hb dX9_share_79 (lv_at hl 1 rfl) ?_
    refine lv_icmp_gt (tgt := 114) hx hb dX9_share_81 (by decide) (fun h => absurd h (by decide)) (fun _ => ?_)
    refine lv_aload_n hx hb dX9_share_84 rfl (lv_at hl 3 rfl) ?_
    refine va_get (ci := 9) (v := .ref hf) (C := RX9) (T := TX9) (N := 11) hx hb htl inX9 hown hK hP 0 rfl rfl 8 (by decide) (htl _ fl_RX9_31) (fun _ h9 => h9) rfl dX9_share_85 ?_
    refine lv_iload hx hb dX9_share_88 (lv_at hl 2 rfl) ?_
    refine lv_bipush (v := 64) hx hb dX9_share_90 (by decide) ?_
    refine lv_imul hx hb dX9_share_92 ?_
    refine lv_topi (fun xv ex => ?_)
    obtain rfl : xv = 0 := ex.trans (by first | rfl | decide)
    refine lv_iload hx hb dX9_share_93 (lv_at hl 0 rfl) ?_
    refine lv_iadd hx hb dX9_share_95 ?_
    refine lv_topi (fun xv ex => ?_)
    obtain rfl : xv = 21 := ex.trans (by first | rfl | decide)
    refine lv_iload hx hb dX9_share_96 (lv_at hl 0 rfl) ?_
    refine lv_if_ne (tgt := 105) hx hb dX9_share_98 (by decide) (fun _ => ?_) (fun h => absurd h (by decide))
    refine lv_ldc hx hb hown (htl _ ct_RX9_68) dX9_share_105 ?_
    refine va_iast hx hb hK hP hD hS 4 0 rfl rfl (by unfold vp_in; decide) dX9_share_107 (fun H locs hP hD hS => ?_)
    have hP : va_P G vwCl [(h0, .inr (9, [f_h0_0, f_h0_1, f_h0_2, f_h0_3, f_h0_4, f_h0_5, .ref hd, f_h0_7, .ref hf, f_h0_9, f_h0_10])), (aW, .inr (10, [f_aW_0, .ref aC, f_aW_2, f_aW_3, f_aW_4, f_aW_5, f_aW_6])), (aC, .inr (1, [f_aC_0, f_aC_1, .int 0])), (hd, .inl (cs 0, 6, .inl g)), (hf, .inl (cs 0, 448, .inl (upd gf_47 21 1000000)))] H := hP
    have hD : va_D A [(h0, .inr (9, [f_h0_0, f_h0_1, f_h0_2, f_h0_3, f_h0_4, f_h0_5, .ref hd, f_h0_7, .ref hf, f_h0_9, f_h0_10])), (aW, .inr (10, [f_aW_0, .ref aC, f_aW_2, f_aW_3, f_aW_4, f_aW_5, f_aW_6])), (aC, .inr (1, [f_aC_0, f_aC_1, .int 0])), (hd, .inl (cs 0, 6, .inl g)), (hf, .inl (cs 0, 448, .inl (upd gf_47 21 1000000)))] := hD
    refine lv_iinc (v := 22) (lv' := [(8, .int 22), (7, .int 31), (6, .int 0), (0, .ref h0), (1, .ref aW), (2, .ref aA), (3, .long a), (5, .int (nI 5))]) hx hb dX9_share_108 hl (k := 0) rfl (by first | rfl | decide) (by decide) rfl (fun ls hl => ?_)
    refine lv_goto (tgt := 77) hx hb dX9_share_111 (by decide) ?_
    generalize (upd gf_47 21 1000000) = gf_48 at hP hD
    refine lv_iload hx hb dX9_share_77 (lv_at hl 0 rfl) ?_
    refine lv_iload hx hb dX9_share_79 (lv_at hl 1 rfl) ?_
    refine lv_icmp_gt (tgt := 114) hx hb dX9_share_81 (by decide) (fun h => absurd h (by decide)) (fun _ => ?_)
    refine lv_aload_n hx hb dX9_share_84 rfl (lv_at hl 3 rfl) ?_
    refine va_get (ci := 9) (v := .ref hf) (C := RX9) (T := TX9) (N := 11) hx hb htl inX9 hown hK hP 0 rfl rfl 8 (by decide) (htl _ fl_RX9_31) (fun _ h9 => h9) rfl dX9_share_85 ?_
    refine lv_iload hx hb dX9_share_88 (lv_at hl 2 rfl) ?_
    refine lv_bipush (v := 64) hx hb dX9_share_90 (by decide) ?_
    refine lv_imul hx hb dX9_share_92 ?_
    refine lv_topi (fun xv ex => ?_)
    obtain rfl : xv = 0 := ex.trans (by first | rfl | decide)
    refine lv_iload hx hb dX9_share_93 (lv_at hl 0 rfl) ?_
    refine lv_iadd hx hb dX9_share_95 ?_
    refine lv_topi (fun xv ex => ?_)
    obtain rfl : xv = 22 := ex.trans (by first | rfl | decide)
    refine lv_iload hx hb dX9_share_96 (lv_at hl 0 rfl) ?_
    refine lv_if_ne (tgt := 105) hx hb dX9_share_98 (by decide) (fun _ => ?_) (fun h => absurd h (by decide))
    refine lv_ldc hx hb hown (htl _ ct_RX9_68) dX9_share_105 ?_
    refine va_iast hx hb hK hP hD hS 4 0 rfl rfl (by unfold vp_in; decide) dX9_share_107 (fun H locs hP hD hS => ?_)
    have hP : va_P G vwCl [(h0, .inr (9, [f_h0_0, f_h0_1, f_h0_2, f_h0_3, f_h0_4, f_h0_5, .ref hd, f_h0_7, .ref hf, f_h0_9, f_h0_10])), (aW, .inr (10, [f_aW_0, .ref aC, f_aW_2, f_aW_3, f_aW_4, f_aW_5, f_aW_6])), (aC, .inr (1, [f_aC_0, f_aC_1, .int 0])), (hd, .inl (cs 0, 6, .inl g)), (hf, .inl (cs 0, 448, .inl (upd gf_48 22 1000000)))] H := hP
    have hD : va_D A [(h0, .inr (9, [f_h0_0, f_h0_1, f_h0_2, f_h0_3, f_h0_4, f_h0_5, .ref hd, f_h0_7, .ref hf, f_h0_9, f_h0_10])), (aW, .inr (10, [f_aW_0, .ref aC, f_aW_2, f_aW_3, f_aW_4, f_aW_5, f_aW_6])), (aC, .inr (1, [f_aC_0, f_aC_1, .int 0])), (hd, .inl (cs 0, 6, .inl g)), (hf, .inl (cs 0, 448, .inl (upd gf_48 22 1000000)))] := hD
    refine lv_iinc (v := 23) (lv' := [(8, .int 23), (7, .int 31), (6, .int 0), (0, .ref h0), (1, .ref aW), (2, .ref aA), (3, .long a), (5, .int (nI 5))]) hx hb dX9_share_108 hl (k := 0) rfl (by first | rfl | decide) (by decide) rfl (fun ls hl => ?_)
    refine lv_goto (tgt := 77) hx hb dX9_share_111 (by decide) ?_
    generalize (upd gf_48 22 1000000) = gf_49 at hP hD
    refine lv_iload hx hb dX9_share_77 (lv_at hl 0 rfl) ?_
    refine lv_iload hx hb dX9_share_79 (lv_at hl 1 rfl) ?_
    refine lv_icmp_gt (tgt := 114) hx hb dX9_share_81 (by decide) (fun h => absurd h (by decide)) (fun _ => ?_)
    refine lv_aload_n hx hb dX9_share_84 rfl (lv_at hl 3 rfl) ?_
    refine va_get (ci := 9) (v := .ref hf) (C := RX9) (T := TX9) (N := 11) hx hb htl inX9 hown hK hP 0 rfl rfl 8 (by decide) (htl _ fl_RX9_31) (fun _ h9 => h9) rfl dX9_share_85 ?_
    refine lv_iload hx hb dX9_share_88 (lv_at hl 2 rfl) ?_
    refine lv_bipush (v := 64) hx hb dX9_share_90 (by decide) ?_
    refine lv_imul hx hb dX9_share_92 ?_
    refine lv_topi (fun xv ex => ?_)
    obtain rfl : xv = 0 := ex.trans (by first | rfl | decide)
    refine lv_iload hx hb dX9_share_93 (lv_at hl 0 rfl) ?_
    refine lv_iadd hx hb dX9_share_95 ?_
    refine lv_topi (fun xv ex => ?_)
    obtain rfl : xv = 23 := ex.trans (by first | rfl | decide)
    refine lv_iload hx hb dX9_share_96 (lv_at hl 0 rfl) ?_
    refine lv_if_ne (tgt := 105) hx hb dX9_share_98 (by decide) (fun _ => ?_) (fun h => absurd h (by decide))
    refine lv_ldc hx hb hown (htl _ ct_RX9_68) dX9_share_105 ?_
    refine va_iast hx hb hK hP hD hS 4 0 rfl rfl (by unfold vp_in; decide) dX9_share_107 (fun H locs hP hD hS => ?_)
    have hP : va_P G vwCl [(h0, .inr (9, [f_h0_0, f_h0_1, f_h0_2, f_h0_3, f_h0_4, f_h0_5, .ref hd, f_h0_7, .ref hf, f_h0_9, f_h0_10])), (aW, .inr (10, [f_aW_0, .ref aC, f_aW_2, f_aW_3, f_aW_4, f_aW_5, f_aW_6])), (aC, .inr (1, [f_aC_0, f_aC_1, .int 0])), (hd, .inl (cs 0, 6, .inl g)), (hf, .inl (cs 0, 448, .inl (upd gf_49 23 1000000)))] H := hP
    have hD : va_D A [(h0, .inr (9, [f_h0_0, f_h0_1, f_h0_2, f_h0_3, f_h0_4, f_h0_5, .ref hd, f_h0_7, .ref hf, f_h0_9, f_h0_10])), (aW, .inr (10, [f_aW_0, .ref aC, f_aW_2, f_aW_3, f_aW_4, f_aW_5, f_aW_6])), (aC, .inr (1, [f_aC_0, f_aC_1, .int 0])), (hd, .inl (cs 0, 6, .inl g)), (hf, .inl (cs 0, 448, .inl (upd gf_49 23 1000000)))] := hD
    refine lv_iinc (v := 24) (lv' := [(8, .int 24), (7, .int 31), (6, .int 0), (0, .ref h0), (1, .ref aW), (2, .ref aA), (3, .long a), (5, .int (nI 5))]) hx hb dX9_share_108 hl (k := 0) rfl (by first | rfl | decide) (by decide) rfl (fun ls hl => ?_)
    refine lv_goto (tgt := 77) hx hb dX9_share_111 (by decide) ?_
    generalize (upd gf_49 23 1000000) = gf_50 at hP hD
    refine lv_iload hx hb dX9_share_77 (lv_at hl 0 rfl) ?_
    refine lv_iload hx hb dX9_share_79 (lv_at hl 1 rfl) ?_
    refine lv_icmp_gt (tgt := 114) hx hb dX9_share_81 (by decide) (fun h => absurd h (by decide)) (fun _ => ?_)
    refine lv_aload_n hx hb dX9_share_84 rfl (lv_at hl 3 rfl) ?_
    refine va_get (ci := 9) (v := .ref hf) (C := RX9) (T := TX9) (N := 11) hx hb htl inX9 hown hK hP 0 rfl rfl 8 (by decide) (htl _ fl_RX9_31) (fun _ h9 => h9) rfl dX9_share_85 ?_
    refine lv_iload hx hb dX9_share_88 (lv_at hl 2 rfl) ?_
    refine lv_bipush (v := 64) hx hb dX9_share_90 (by decide) ?_
    refine lv_imul hx hb dX9_share_92 ?_
    refine lv_topi (fun xv ex => ?_)
    obtain rfl : xv = 0 := ex.trans (by first | rfl | decide)
    refine lv_iload hx hb dX9_share_93 (lv_at hl 0 rfl) ?_
    refine lv_iadd hx hb dX9_share_95 ?_
    refine lv_topi (fun xv ex => ?_)
    obtain rfl : xv = 24 := ex.trans (by first | rfl | decide)
    refine lv_iload hx hb dX9_share_96 (lv_at hl 0 rfl) ?_
    refine lv_if_ne (tgt := 105) hx hb dX9_share_98 (by decide) (fun _ => ?_) (fun h => absurd h (by decide))
    refine lv_ldc hx hb hown (htl _ ct_RX9_68) dX9_share_105 ?_
    refine va_iast hx hb hK hP hD hS 4 0 rfl rfl (by unfold vp_in; decide) dX9_share_107 (fun H locs hP hD hS => ?_)
    have hP : va_P G vwCl [(h0, .inr (9, [f_h0_0, f_h0_1, f_h0_2, f_h0_3, f_h0_4, f_h0_5, .ref hd, f_h0_7, .ref hf, f_h0_9, f_h0_10])), (aW, .inr (10, [f_aW_0, .ref aC, f_aW_2, f_aW_3, f_aW_4, f_aW_5, f_aW_6])), (aC, .inr (1, [f_aC_0, f_aC_1, .int 0])), (hd, .inl (cs 0, 6, .inl g)), (hf, .inl (cs 0, 448, .inl (upd gf_50 24 1000000)))] H := hP
    have hD : va_D A [(h0, .inr (9, [f_h0_0, f_h0_1, f_h0_2, f_h0_3, f_h0_4, f_h0_5, .ref hd, f_h0_7, .ref hf, f_h0_9, f_h0_10])), (aW, .inr (10, [f_aW_0, .ref aC, f_aW_2, f_aW_3, f_aW_4, f_aW_5, f_aW_6])), (aC, .inr (1, [f_aC_0, f_aC_1, .int 0])), (hd, .inl (cs 0, 6, .inl g)), (hf, .inl (cs 0, 448, .inl (upd gf_50 24 1000000)))] := hD
    refine lv_iinc (v := 25) (lv' := [(8, .int 25), (7, .int 31), (6, .int 0), (0, .ref h0), (1, .ref aW), (2, .ref aA), (3, .long a), (5, .int (nI 5))]) hx hb dX9_share_108 hl (k := 0) rfl (by first | rfl | decide) (by decide) rfl (fun ls hl => ?_)
    refine lv_goto (tgt := 77) hx hb dX9_share_111 (by decide) ?_
    generalize (upd gf_50 24 1000000) = gf_51 at hP hD
    refine lv_iload hx hb dX9_share_77 (lv_at hl 0 rfl) ?_
    refine lv_iload hx hb dX9_share_79 (lv_at hl 1 rfl) ?_
    refine lv_icmp_gt (tgt := 114) hx hb dX9_share_81 (by decide) (fun h => absurd h (by decide)) (fun _ => ?_)
    refine lv_aload_n hx hb dX9_share_84 rfl (lv_at hl 3 rfl) ?_
    refine va_get (ci := 9) (v := .ref hf) (C := RX9) (T := TX9) (N := 11) hx hb htl inX9 hown hK hP 0 rfl rfl 8 (by decide) (htl _ fl_RX9_31) (fun _ h9 => h9) rfl dX9_share_85 ?_
    refine lv_iload hx hb dX9_share_88 (lv_at hl 2 rfl) ?_
    refine lv_bipush (v := 64) hx hb dX9_share_90 (by decide) ?_
    refine lv_imul hx hb dX9_share_92 ?_
    refine lv_topi (fun xv ex => ?_)
    obtain rfl : xv = 0 := ex.trans (by first | rfl | decide)
    refine lv_iload hx hb dX9_share_93 (lv_at hl 0 rfl) ?_
    refine lv_iadd hx hb dX9_share_95 ?_
    refine lv_topi (fun xv ex => ?_)
    obtain rfl : xv = 25 := ex.trans (by first | rfl | decide)
    refine lv_iload hx hb dX9_share_96 (lv_at hl 0 rfl) ?_
    refine lv_if_ne (tgt := 105) hx hb dX9_share_98 (by decide) (fun _ => ?_) (fun h => absurd h (by decide))
    refine lv_ldc hx hb hown (htl _ ct_RX9_68) dX9_share_105 ?_
    refine va_iast hx hb hK hP hD hS 4 0 rfl rfl (by unfold vp_in; decide) dX9_share_107 (fun H locs hP hD hS => ?_)
    have hP : va_P G vwCl [(h0, .inr (9, [f_h0_0, f_h0_1, f_h0_2, f_h0_3, f_h0_4, f_h0_5, .ref hd, f_h0_7, .ref hf, f_h0_9, f_h0_10])), (aW, .inr (10, [f_aW_0, .ref aC, f_aW_2, f_aW_3, f_aW_4, f_aW_5, f_aW_6])), (aC, .inr (1, [f_aC_0, f_aC_1, .int 0])), (hd, .inl (cs 0, 6, .inl g)), (hf, .inl (cs 0, 448, .inl (upd gf_51 25 1000000)))] H := hP
    have hD : va_D A [(h0, .inr (9, [f_h0_0, f_h0_1, f_h0_2, f_h0_3, f_h0_4, f_h0_5, .ref hd, f_h0_7, .ref hf, f_h0_9, f_h0_10])), (aW, .inr (10, [f_aW_0, .ref aC, f_aW_2, f_aW_3, f_aW_4, f_aW_5, f_aW_6])), (aC, .inr (1, [f_aC_0, f_aC_1, .int 0])), (hd, .inl (cs 0, 6, .inl g)), (hf, .inl (cs 0, 448, .inl (upd gf_51 25 1000000)))] := hD
    refine lv_iinc (v := 26) (lv' := [(8, .int 26), (7, .int 31), (6, .int 0), (0, .ref h0), (1, .ref aW), (2, .ref aA), (3, .long a), (5, .int (nI 5))]) hx hb dX9_share_108 hl (k := 0) rfl (by first | rfl | decide) (by decide) rfl (fun ls hl => ?_)
    refine lv_goto (tgt := 77) hx hb dX9_share_111 (by decide) ?_
    generalize (upd gf_51 25 1000000) = gf_52 at hP hD
    refine lv_iload hx hb dX9_share_77 (lv_at hl 0 rfl) ?_
    refine lv_iload hx hb dX9_share_79 (lv_at hl 1 rfl) ?_
    refine lv_icmp_gt (tgt := 114) hx hb dX9_share_81 (by decide) (fun h => absurd h (by decide)) (fun _ => ?_)
    refine lv_aload_n hx hb dX9_share_84 rfl (lv_at hl 3 rfl) ?_
    refine va_get (ci := 9) (v := .ref hf) (C := RX9) (T := TX9) (N := 11) hx hb htl inX9 hown hK hP 0 rfl rfl 8 (by decide) (htl _ fl_RX9_31) (fun _ h9 => h9) rfl dX9_share_85 ?_
    refine lv_iload hx hb dX9_share_88 (lv_at hl 2 rfl) ?_
    refine lv_bipush (v := 64) hx hb dX9_share_90 (by decide) ?_
    refine lv_imul hx hb dX9_share_92 ?_
    refine lv_topi (fun xv ex => ?_)
    obtain rfl : xv = 0 := ex.trans (by first | rfl | decide)
    refine lv_iload hx hb dX9_share_93 (lv_at hl 0 rfl) ?_
    refine lv_iadd hx hb dX9_share_95 ?_
    refine lv_topi (fun xv ex => ?_)
    obtain rfl : xv = 26 := ex.trans (by first | rfl | decide)
    refine lv_iload hx hb dX9_share_96 (lv_at hl 0 rfl) ?_
    refine lv_if_ne (tgt := 105) hx hb dX9_share_98 (by decide) (fun _ => ?_) (fun h => absurd h (by decide))
    refine lv_ldc hx hb hown (htl _ ct_RX9_68) dX9_share_105 ?_
    refine va_iast hx hb hK hP hD hS 4 0 rfl rfl (by unfold vp_in; decide) dX9_share_107 (fun H locs hP hD hS => ?_)
    have hP : va_P G vwCl [(h0, .inr (9, [f_h0_0, f_h0_1, f_h0_2, f_h0_3, f_h0_4, f_h0_5, .ref hd, f_h0_7, .ref hf, f_h0_9, f_h0_10])), (aW, .inr (10, [f_aW_0, .ref aC, f_aW_2, f_aW_3, f_aW_4, f_aW_5, f_aW_6])), (aC, .inr (1, [f_aC_0, f_aC_1, .int 0])), (hd, .inl (cs 0, 6, .inl g)), (hf, .inl (cs 0, 448, .inl (upd gf_52 26 1000000)))] H := hP
    have hD : va_D A [(h0, .inr (9, [f_h0_0, f_h0_1, f_h0_2, f_h0_3, f_h0_4, f_h0_5, .ref hd, f_h0_7, .ref hf, f_h0_9, f_h0_10])), (aW, .inr (10, [f_aW_0, .ref aC, f_aW_2, f_aW_3, f_aW_4, f_aW_5, f_aW_6])), (aC, .inr (1, [f_aC_0, f_aC_1, .int 0])), (hd, .inl (cs 0, 6, .inl g)), (hf, .inl (cs 0, 448, .inl (upd gf_52 26 1000000)))] := hD
    refine lv_iinc (v := 27) (lv' := [(8, .int 27), (7, .int 31), (6, .int 0), (0, .ref h0), (1, .ref aW), (2, .ref aA), (3, .long a), (5, .int (nI 5))]) hx hb dX9_share_108 hl (k := 0) rfl (by first | rfl | decide) (by decide) rfl (fun ls hl => ?_)
    refine lv_goto (tgt := 77) hx hb dX9_share_111 (by decide) ?_
    generalize (upd gf_52 26 1000000) = gf_53 at hP hD
    refine lv_iload hx hb dX9_share_77 (lv_at hl 0 rfl) ?_
    refine lv_iload hx hb dX9_share_79 (lv_at hl 1 rfl) ?_
    refine lv_icmp_gt (tgt := 114) hx hb dX9_share_81 (by decide) (fun h => absurd h (by decide)) (fun _ => ?_)
    refine lv_aload_n hx hb dX9_share_84 rfl (lv_at hl 3 rfl) ?_
    refine va_get (ci := 9) (v := .ref hf) (C := RX9) (T := TX9) (N := 11) hx hb htl inX9 hown hK hP 0 rfl rfl 8 (by decide) (htl _ fl_RX9_31) (fun _ h9 => h9) rfl dX9_share_85 ?_
    refine lv_iload hx hb dX9_share_88 (lv_at hl 2 rfl) ?_
    refine lv_bipush (v := 64) hx hb dX9_share_90 (by decide) ?_
    refine lv_imul hx hb dX9_share_92 ?_
    refine lv_topi (fun xv ex => ?_)
    obtain rfl : xv = 0 := ex.trans (by first | rfl | decide)
    refine lv_iload hx hb dX9_share_93 (lv_at hl 0 rfl) ?_
    refine lv_iadd hx hb dX9_share_95 ?_
    refine lv_topi (fun xv ex => ?_)
    obtain rfl : xv = 27 := ex.trans (by first | rfl | decide)
    refine lv_iload hx hb dX9_share_96 (lv_at hl 0 rfl) ?_
    refine lv_if_ne (tgt := 105) hx hb dX9_share_98 (by decide) (fun _ => ?_) (fun h => absurd h (by decide))
    refine lv_ldc hx hb hown (htl _ ct_RX9_68) dX9_share_105 ?_
    refine va_iast hx hb hK hP hD hS 4 0 rfl rfl (by unfold vp_in; decide) dX9_share_107 (fun H locs hP hD hS => ?_)
    have hP : va_P G vwCl [(h0, .inr (9, [f_h0_0, f_h0_1, f_h0_2, f_h0_3, f_h0_4, f_h0_5, .ref hd, f_h0_7, .ref hf, f_h0_9, f_h0_10])), (aW, .inr (10, [f_aW_0, .ref aC, f_aW_2, f_aW_3, f_aW_4, f_aW_5, f_aW_6])), (aC, .inr (1, [f_aC_0, f_aC_1, .int 0])), (hd, .inl (cs 0, 6, .inl g)), (hf, .inl (cs 0, 448, .inl (upd gf_53 27 1000000)))] H := hP
    have hD : va_D A [(h0, .inr (9, [f_h0_0, f_h0_1, f_h0_2, f_h0_3, f_h0_4, f_h0_5, .ref hd, f_h0_7, .ref hf, f_h0_9, f_h0_10])), (aW, .inr (10, [f_aW_0, .ref aC, f_aW_2, f_aW_3, f_aW_4, f_aW_5, f_aW_6])), (aC, .inr (1, [f_aC_0, f_aC_1, .int 0])), (hd, .inl (cs 0, 6, .inl g)), (hf, .inl (cs 0, 448, .inl (upd gf_53 27 1000000)))] := hD
    refine lv_iinc (v := 28) (lv' := [(8, .int 28), (7, .int 31), (6, .int 0), (0, .ref h0), (1, .ref aW), (2, .ref aA), (3, .long a), (5, .int (nI 5))]) hx hb dX9_share_108 hl (k := 0) rfl (by first | rfl | decide) (by decide) rfl (fun ls hl => ?_)
    refine lv_goto (tgt := 77) hx hb dX9_share_111 (by decide) ?_
    generalize (upd gf_53 27 1000000) = gf_54 at hP hD
    refine lv_iload hx hb dX9_share_77 (lv_at hl 0 rfl) ?_
    refine lv_iload hx hb dX9_share_79 (lv_at hl 1 rfl) ?_
    refine lv_icmp_gt (tgt := 114) hx hb dX9_share_81 (by decide) (fun h => absurd h (by decide)) (fun _ => ?_)
    refine lv_aload_n hx hb dX9_share_84 rfl (lv_at hl 3 rfl) ?_
    refine va_get (ci := 9) (v := .ref hf) (C := RX9) (T := TX9) (N := 11) hx hb htl inX9 hown hK hP 0 rfl rfl 8 (by decide) (htl _ fl_RX9_31) (fun _ h9 => h9) rfl dX9_share_85 ?_
    refine lv_iload hx hb dX9_share_88 (lv_at hl 2 rfl) ?_
    refine lv_bipush (v := 64) hx hb dX9_share_90 (by decide) ?_
    refine lv_imul hx hb dX9_share_92 ?_
    refine lv_topi (fun xv ex => ?_)
    obtain rfl : xv = 0 := ex.trans (by first | rfl | decide)
    refine lv_iload hx hb dX9_share_93 (lv_at hl 0 rfl) ?_
    refine lv_iadd hx hb dX9_share_95 ?_
    refine lv_topi (fun xv ex => ?_)
    obtain rfl : xv = 28 := ex.trans (by first | rfl | decide)
    refine lv_iload hx hb dX9_share_96 (lv_at hl 0 rfl) ?_
    refine lv_if_ne (tgt := 105) hx hb dX9_share_98 (by decide) (fun _ => ?_) (fun h => absurd h (by decide))
    refine lv_ldc hx hb hown (htl _ ct_RX9_68) dX9_share_105 ?_
    refine va_iast hx hb hK hP hD hS 4 0 rfl rfl (by unfold vp_in; decide) dX9_share_107 (fun H locs hP hD hS => ?_)
    have hP : va_P G vwCl [(h0, .inr (9, [f_h0_0, f_h0_1, f_h0_2, f_h0_3, f_h0_4, f_h0_5, .ref hd, f_h0_7, .ref hf, f_h0_9, f_h0_10])), (aW, .inr (10, [f_aW_0, .ref aC, f_aW_2, f_aW_3, f_aW_4, f_aW_5, f_aW_6])), (aC, .inr (1, [f_aC_0, f_aC_1, .int 0])), (hd, .inl (cs 0, 6, .inl g)), (hf, .inl (cs 0, 448, .inl (upd gf_54 28 1000000)))] H := hP
    have hD : va_D A [(h0, .inr (9, [f_h0_0, f_h0_1, f_h0_2, f_h0_3, f_h0_4, f_h0_5, .ref hd, f_h0_7, .ref hf, f_h0_9, f_h0_10])), (aW, .inr (10, [f_aW_0, .ref aC, f_aW_2, f_aW_3, f_aW_4, f_aW_5, f_aW_6])), (aC, .inr (1, [f_aC_0, f_aC_1, .int 0])), (hd, .inl (cs 0, 6, .inl g)), (hf, .inl (cs 0, 448, .inl (upd gf_54 28 1000000)))] := hD
    refine lv_iinc (v := 29) (lv' := [(8, .int 29), (7, .int 31), (6, .int 0), (0, .ref h0), (1, .ref aW), (2, .ref aA), (3, .long a), (5, .int (nI 5))]) hx hb dX9_share_108 hl (k := 0) rfl (by first | rfl | decide) (by decide) rfl (fun ls hl => ?_)
    refine lv_goto (tgt := 77) hx hb dX9_share_111 (by decide) ?_
    generalize (upd gf_54 28 1000000) = gf_55 at hP hD
    refine lv_iload hx hb dX9_share_77 (lv_at hl 0 rfl) ?_
    refine lv_iload hx hb dX9_share_79 (lv_at hl 1 rfl) ?_
    refine lv_icmp_gt (tgt := 114) hx hb dX9_share_81 (by decide) (fun h => absurd h (by decide)) (fun _ => ?_)
    refine lv_aload_n hx hb dX9_share_84 rfl (lv_at hl 3 rfl) ?_
    refine va_get (ci := 9) (v := .ref hf) (C := RX9) (T := TX9) (N := 11) hx hb htl inX9 hown hK hP 0 rfl rfl 8 (by decide) (htl _ fl_RX9_31) (fun _ h9 => h9) rfl dX9_share_85 ?_
    refine lv_iload hx hb dX9_share_88 (lv_at hl 2 rfl) ?_
    refine lv_bipush (v := 64) hx hb dX9_share_90 (by decide) ?_
    refine lv_imul hx hb dX9_share_92 ?_
    refine lv_topi (fun xv ex => ?_)
    obtain rfl : xv = 0 := ex.trans (by first | rfl | decide)
    refine lv_iload hx hb dX9_share_93 (lv_at hl 0 rfl) ?_
    refine lv_iadd hx hb dX9_share_95 ?_
    refine lv_topi (fun xv ex => ?_)
    obtain rfl : xv = 29 := ex.trans (by first | rfl | decide)
    refine lv_iload hx hb dX9_share_96 (lv_at hl 0 rfl) ?_
    refine lv_if_ne (tgt := 105) hx hb dX9_share_98 (by decide) (fun _ => ?_) (fun h => absurd h (by decide))
    refine lv_ldc hx hb hown (htl _ ct_RX9_68) dX9_share_105 ?_
    refine va_iast hx hb hK hP hD hS 4 0 rfl rfl (by unfold vp_in; decide) dX9_share_107 (fun H locs hP hD hS => ?_)
    have hP : va_P G vwCl [(h0, .inr (9, [f_h0_0, f_h0_1, f_h0_2, f_h0_3, f_h0_4, f_h0_5, .ref hd, f_h0_7, .ref hf, f_h0_9, f_h0_10])), (aW, .inr (10, [f_aW_0, .ref aC, f_aW_2, f_aW_3, f_aW_4, f_aW_5, f_aW_6])), (aC, .inr (1, [f_aC_0, f_aC_1, .int 0])), (hd, .inl (cs 0, 6, .inl g)), (hf, .inl (cs 0, 448, .inl (upd gf_55 29 1000000)))] H := hP
    have hD : va_D A [(h0, .inr (9, [f_h0_0, f_h0_1, f_h0_2, f_h0_3, f_h0_4, f_h0_5, .ref hd, f_h0_7, .ref hf, f_h0_9, f_h0_10])), (aW, .inr (10, [f_aW_0, .ref aC, f_aW_2, f_aW_3, f_aW_4, f_aW_5, f_aW_6])), (aC, .inr (1, [f_aC_0, f_aC_1, .int 0])), (hd, .inl (cs 0, 6, .inl g)), (hf, .inl (cs 0, 448, .inl (upd gf_55 29 1000000)))] := hD
    refine lv_iinc (v := 30) (lv' := [(8, .int 30), (7, .int 31), (6, .int 0), (0, .ref h0), (1, .ref aW), (2, .ref aA), (3, .long a), (5, .int (nI 5))]) hx hb dX9_share_108 hl (k := 0) rfl (by first | rfl | decide) (by decide) rfl (fun ls hl => ?_)
    refine lv_goto (tgt := 77) hx hb dX9_share_111 (by decide) ?_
    generalize (upd gf_55 29 1000000) = gf_56 at hP hD
    refine lv_iload hx hb dX9_share_77 (lv_at hl 0 rfl) ?_
    refine lv_iload hx hb dX9_share_79 (lv_at hl 1 rfl) ?_
    refine lv_icmp_gt (tgt := 114) hx hb dX9_share_81 (by decide) (fun h => absurd h (by decide)) (fun _ => ?_)
    refine lv_aload_n hx hb dX9_share_84 rfl (lv_at hl 3 rfl) ?_
    refine va_get (ci := 9) (v := .ref hf) (C := RX9) (T := TX9) (N := 11) hx hb htl inX9 hown hK hP 0 rfl rfl 8 (by decide) (htl _ fl_RX9_31) (fun _ h9 => h9) rfl dX9_share_85 ?_
    refine lv_iload hx hb dX9_share_88 (lv_at hl 2 rfl) ?_
    refine lv_bipush (v := 64) hx hb dX9_share_90 (by decide) ?_
    refine lv_imul hx hb dX9_share_92 ?_
    refine lv_topi (fun xv ex => ?_)
    obtain rfl : xv = 0 := ex.trans (by first | rfl | decide)
    refine lv_iload hx hb dX9_share_93 (lv_at hl 0 rfl) ?_
    refine lv_iadd hx hb dX9_share_95 ?_
    refine lv_topi (fun xv ex => ?_)
    obtain rfl : xv = 30 := ex.trans (by first | rfl | decide)
    refine lv_iload hx hb dX9_share_96 (lv_at hl 0 rfl) ?_
    refine lv_if_ne (tgt := 105) hx hb dX9_share_98 (by decide) (fun _ => ?_) (fun h => absurd h (by decide))
    refine lv_ldc hx hb hown (htl _ ct_RX9_68) dX9_share_105 ?_
    refine va_iast hx hb hK hP hD hS 4 0 rfl rfl (by unfold vp_in; decide) dX9_share_107 (fun H locs hP hD hS => ?_)
    have hP : va_P G vwCl [(h0, .inr (9, [f_h0_0, f_h0_1, f_h0_2, f_h0_3, f_h0_4, f_h0_5, .ref hd, f_h0_7, .ref hf, f_h0_9, f_h0_10])), (aW, .inr (10, [f_aW_0, .ref aC, f_aW_2, f_aW_3, f_aW_4, f_aW_5, f_aW_6])), (aC, .inr (1, [f_aC_0, f_aC_1, .int 0])), (hd, .inl (cs 0, 6, .inl g)), (hf, .inl (cs 0, 448, .inl (upd gf_56 30 1000000)))] H := hP
    have hD : va_D A [(h0, .inr (9, [f_h0_0, f_h0_1, f_h0_2, f_h0_3, f_h0_4, f_h0_5, .ref hd, f_h0_7, .ref hf, f_h0_9, f_h0_10])), (aW, .inr (10, [f_aW_0, .ref aC, f_aW_2, f_aW_3, f_aW_4, f_aW_5, f_aW_6])), (aC, .inr (1, [f_aC_0, f_aC_1, .int 0])), (hd, .inl (cs 0, 6, .inl g)), (hf, .inl (cs 0, 448, .inl (upd gf_56 30 1000000)))] := hD
    refine lv_iinc (v := 31) (lv' := [(8, .int 31), (7, .int 31), (6, .int 0), (0, .ref h0), (1, .ref aW), (2, .ref aA), (3, .long a), (5, .int (nI 5))]) hx hb dX9_share_108 hl (k := 0) rfl (by first | rfl | decide) (by decide) rfl (fun ls hl => ?_)
    refine lv_goto (tgt := 77) hx hb dX9_share_111 (by decide) ?_
    generalize (upd gf_56 30 1000000) = gf_57 at hP hD
    refine lv_iload hx hb dX9_share_77 (lv_at hl 0 rfl) ?_
    refine lv_iload hx hb dX9_share_79 (lv_at hl 1 rfl) ?_
    refine lv_icmp_gt (tgt := 114) hx hb dX9_share_81 (by decide) (fun h => absurd h (by decide)) (fun _ => ?_)
    refine lv_aload_n hx hb dX9_share_84 rfl (lv_at hl 3 rfl) ?_
    refine va_get (ci := 9) (v := .ref hf) (C := RX9) (T := TX9) (N := 11) hx hb htl inX9 hown hK hP 0 rfl rfl 8 (by decide) (htl _ fl_RX9_31) (fun _ h9 => h9) rfl dX9_share_85 ?_
    refine lv_iload hx hb dX9_share_88 (lv_at hl 2 rfl) ?_
    refine lv_bipush (v := 64) hx hb dX9_share_90 (by decide) ?_
    refine lv_imul hx hb dX9_share_92 ?_
    refine lv_topi (fun xv ex => ?_)
    obtain rfl : xv = 0 := ex.trans (by first | rfl | decide)
    refine lv_iload hx hb dX9_share_93 (lv_at hl 0 rfl) ?_
    refine lv_iadd hx hb dX9_share_95 ?_
    refine lv_topi (fun xv ex => ?_)
    obtain rfl : xv = 31 := ex.trans (by first | rfl | decide)
    refine lv_iload hx hb dX9_share_96 (lv_at hl 0 rfl) ?_
    refine lv_if_ne (tgt := 105) hx hb dX9_share_98 (by decide) (fun _ => ?_) (fun h => absurd h (by decide))
    refine lv_ldc hx hb hown (htl _ ct_RX9_68) dX9_share_105 ?_
    refine va_iast hx hb hK hP hD hS 4 0 rfl rfl (by unfold vp_in; decide) dX9_share_107 (fun H locs hP hD hS => ?_)
    have hP : va_P G vwCl [(h0, .inr (9, [f_h0_0, f_h0_1, f_h0_2, f_h0_3, f_h0_4, f_h0_5, .ref hd, f_h0_7, .ref hf, f_h0_9, f_h0_10])), (aW, .inr (10, [f_aW_0, .ref aC, f_aW_2, f_aW_3, f_aW_4, f_aW_5, f_aW_6])), (aC, .inr (1, [f_aC_0, f_aC_1, .int 0])), (hd, .inl (cs 0, 6, .inl g)), (hf, .inl (cs 0, 448, .inl (upd gf_57 31 1000000)))] H := hP
    have hD : va_D A [(h0, .inr (9, [f_h0_0, f_h0_1, f_h0_2, f_h0_3, f_h0_4, f_h0_5, .ref hd, f_h0_7, .ref hf, f_h0_9, f_h0_10])), (aW, .inr (10, [f_aW_0, .ref aC, f_aW_2, f_aW_3, f_aW_4, f_aW_5, f_aW_6])), (aC, .inr (1, [f_aC_0, f_aC_1, .int 0])), (hd, .inl (cs 0, 6, .inl g)), (hf, .inl (cs 0, 448, .inl (upd gf_57 31 1000000)))] := hD
    refine lv_iinc (v := 32) (lv' := [(8, .int 32), (7, .int 31), (6, .int 0), (0, .ref h0), (1, .ref aW), (2, .ref aA), (3, .long a), (5, .int (nI 5))]) hx hb dX9_share_108 hl (k := 0) rfl (by first | rfl | decide) (by decide) rfl (fun ls hl => ?_)
    refine lv_goto (tgt := 77) hx hb dX9_share_111 (by decide) ?_
    refine lv_iload hx hb dX9_share_77 (lv_at hl 0 rfl) ?_
    refine lv_iload hx hb dX9_share_79 (lv_at hl 1 rfl) ?_
    refine lv_icmp_gt (tgt := 114) hx hb dX9_share_81 (by decide) (fun _ => ?_) (fun h => absurd (by decide) h)
    refine lv_iload hx hb dX9_share_114 (lv_at hl 2 rfl) ?_
    refine lv_iconst (v := 1) hx hb dX9_share_116 (by decide) ?_
    refine lv_isub hx hb dX9_share_117 ?_
    refine lv_topi (fun xv ex => ?_)
    obtain rfl : xv = (-1) := ex.trans (by first | rfl | decide)
    refine lv_istore (lv' := [(8, .int (-1)), (7, .int 31), (6, .int 0), (0, .ref h0), (1, .ref aW), (2, .ref aA), (3, .long a), (5, .int (nI 5))]) hx hb dX9_share_118 hl (by decide) rfl (fun ls hl => ?_)
    refine lv_iload hx hb dX9_share_120 (lv_at hl 0 rfl) ?_
    refine lv_if_lt (tgt := 170) hx hb dX9_share_122 (by decide) (fun _ => ?_) (fun h => absurd (by decide) h)
    refine lv_aload_n hx hb dX9_share_170 rfl (lv_at hl 3 rfl) ?_
    refine lv_aload_n hx hb dX9_share_171 rfl (lv_at hl 3 rfl) ?_
    refine va_get (ci := 9) (v := .ref hf) (C := RX9) (T := TX9) (N := 11) hx hb htl inX9 hown hK hP 0 rfl rfl 8 (by decide) (htl _ fl_RX9_31) (fun _ h9 => h9) rfl dX9_share_172 ?_
    refine lv_iload hx hb dX9_share_175 (lv_at hl 1 rfl) ?_
    refine va_iald hx hb hK hP 4 0 rfl rfl (by unfold vp_in; decide) dX9_share_177 ?_
    refine lv_topi (fun xv ex => ?_)
    obtain rfl : xv = 1000000 := ex.trans (by first | exact pk_us | rfl | decide)
    refine va_put (ci := 9) (v := .int 1000000) (ty := .int) (C := RX9) (T := TX9) (N := 11) hx hb htl inX9 tyX9 tyX9_ok nmX9 hown hK hP hD hS 0 rfl rfl 5 (by decide) (htl _ fl_RX9_92) (fun _ h9 => h9) rfl (by decide +kernel) (by first | rfl | decide) (by first | rfl | decide) (Nat.le_of_ble_eq_true rfl) dX9_share_178 (fun H locs hP hD hS => ?_)
    have hP : va_P G vwCl [(h0, .inr (9, [f_h0_0, f_h0_1, f_h0_2, f_h0_3, f_h0_4, .int 1000000, .ref hd, f_h0_7, .ref hf, f_h0_9, f_h0_10])), (aW, .inr (10, [f_aW_0, .ref aC, f_aW_2, f_aW_3, f_aW_4, f_aW_5, f_aW_6])), (aC, .inr (1, [f_aC_0, f_aC_1, .int 0])), (hd, .inl (cs 0, 6, .inl g)), (hf, .inl (cs 0, 448, .inl (upd gf_57 31 1000000)))] H := hP
    have hD : va_D A [(h0, .inr (9, [f_h0_0, f_h0_1, f_h0_2, f_h0_3, f_h0_4, .int 1000000, .ref hd, f_h0_7, .ref hf, f_h0_9, f_h0_10])), (aW, .inr (10, [f_aW_0, .ref aC, f_aW_2, f_aW_3, f_aW_4, f_aW_5, f_aW_6])), (aC, .inr (1, [f_aC_0, f_aC_1, .int 0])), (hd, .inl (cs 0, 6, .inl g)), (hf, .inl (cs 0, 448, .inl (upd gf_57 31 1000000)))] := hD
    refine lv_aload_n hx hb dX9_share_181 rfl (lv_at hl 3 rfl) ?_
    refine va_get (ci := 9) (v := .int 1000000) (C := RX9) (T := TX9) (N := 11) hx hb htl inX9 hown hK hP 0 rfl rfl 5 (by decide) (htl _ fl_RX9_92) (fun _ h9 => h9) rfl dX9_share_182 ?_
    refine lv_ldc hx hb hown (htl _ ct_RX9_68) dX9_share_185 ?_
    refine lv_icmp_lt (tgt := 192) hx hb dX9_share_187 (by decide) (fun h => absurd h (by decide)) (fun _ => ?_)
    refine lv_iconst (v := 0) hx hb dX9_share_190 (by decide) ?_
    exact W.zret (ty := .boolean) (v := 0) hx hb hr (by decide) (fun t ht hW => ⟨⟨0, (), rfl, ⟨rfl, (by decide)⟩, ⟨fun k q h => by simp at h, va_K.moved hW.alike hK, ⟨fun i j p q h => by simp at h, fun k q h => by simp at h⟩⟩⟩, hS.F ht⟩) hS.2.2 dX9_share_191
  · refine lv_aload_n hx hb dX9_share_49 rfl (lv_at hl 0 rfl) ?_
    refine lv_aload_n hx hb dX9_share_50 rfl (lv_at hl 1 rfl) ?_
    refine lv_aload_n hx hb dX9_share_51 rfl (lv_at hl 2 rfl) ?_
    refine lv_iload hx hb dX9_share_52 (lv_at hl 4 rfl) ?_
    refine va_csv (mkVr (rest := []) ⟨hx, hb, hml, hown, htl⟩ hN hK hP (c_X9_priceAll l G cs h0 aW aA (nI 6) f_h0_0 f_h0_1 f_h0_2 f_h0_3 f_h0_4 f_h0_5 (.ref hd) f_h0_7 (.ref hf) f_h0_9 f_h0_10 f_aW_0 aC f_aW_2 f_aW_3 f_aW_4 f_aW_5 f_aW_6 f_aC_0 f_aC_1) [0, 1, 2] rfl 0 9 rfl rfl (cV 3 htl lk_RX9_73 mI_X9_priceAll mS_X9_priceAll mN_RX9 mC_X9_priceAll ok_X9_priceAll rfl rfl ⟨(Nat.le_of_ble_eq_true rfl), (Nat.le_of_ble_eq_true rfl)⟩) rfl hl.1 rfl (Nat.le_of_ble_eq_true rfl) dX9_share_54 ⟨(Nat.le_of_ble_eq_true rfl), (Nat.le_of_ble_eq_true rfl)⟩) (fun _ => ?_)
    refine lv_aload_n hx hb dX9_share_57 rfl (lv_at hl 1 rfl) ?_
    refine va_get (ci := 10) (v := .ref aC) (C := RX10) (T := TX10) (N := 7) hx hb htl inX10 hown hK hP 1 rfl rfl 1 (by decide) (htl _ fl_RX9_77) (fun _ h9 => h9) rfl dX9_share_58 ?_
    refine va_get (ci := 1) (v := .int 0) (C := RX1) (T := TX1) (N := 3) hx hb htl inX1 hown hK hP 2 rfl rfl 2 (by decide) (htl _ fl_RX9_83) (fun _ h9 => h9) rfl dX9_share_61 ?_
    refine lv_istore (lv' := [(6, .int 0), (0, .ref h0), (1, .ref aW), (2, .ref aA), (3, .long a), (5, .int (nI 6))]) hx hb dX9_share_64 hl (by decide) rfl (fun ls hl => ?_)
    refine lv_iconst (v := 1) hx hb dX9_share_66 (by decide) ?_
    refine lv_iload hx hb dX9_share_67 (lv_at hl 5 rfl) ?_
    refine lv_ishl hx hb dX9_share_69 ?_
    refine lv_topi (fun xv ex => ?_)
    obtain rfl : xv = 64 := ex.trans (by first | rfl | decide)
    refine lv_iconst (v := 1) hx hb dX9_share_70 (by decide) ?_
    refine lv_isub hx hb dX9_share_71 ?_
    refine lv_topi (fun xv ex => ?_)
    obtain rfl : xv = 63 := ex.trans (by first | rfl | decide)
    refine lv_istore (lv' := [(7, .int 63), (6, .int 0), (0, .ref h0), (1, .ref aW), (2, .ref aA), (3, .long a), (5, .int (nI 6))]) hx hb dX9_share_72 hl (by decide) rfl (fun ls hl => ?_)
    refine lv_iconst (v := 0) hx hb dX9_share_74 (by decide) ?_
    refine lv_istore (lv' := [(8, .int 0), (7, .int 63), (6, .int 0), (0, .ref h0), (1, .ref aW), (2, .ref aA), (3, .long a), (5, .int (nI 6))]) hx hb dX9_share_75 hl (by decide) rfl (fun ls hl => ?_)
    refine lv_iload hx hb dX9_share_77 (lv_at hl 0 rfl) ?_
    refine lv_iload hx hb dX9_share_79 (lv_at hl 1 rfl) ?_
    refine lv_icmp_gt (tgt := 114) hx hb dX9_share_81 (by decide) (fun h => absurd h (by decide)) (fun _ => ?_)
    refine lv_aload_n hx hb dX9_share_84 rfl (lv_at hl 3 rfl) ?_
    refine va_get (ci := 9) (v := .ref hf) (C := RX9) (T := TX9) (N := 11) hx hb htl inX9 hown hK hP 0 rfl rfl 8 (by decide) (htl _ fl_RX9_31) (fun _ h9 => h9) rfl dX9_share_85 ?_
    refine lv_iload hx hb dX9_share_88 (lv_at hl 2 rfl) ?_
    refine lv_bipush (v := 64) hx hb dX9_share_90 (by decide) ?_
    refine lv_imul hx hb dX9_share_92 ?_
    refine lv_topi (fun xv ex => ?_)
    obtain rfl : xv = 0 := ex.trans (by first | rfl | decide)
    refine lv_iload hx hb dX9_share_93 (lv_at hl 0 rfl) ?_
    refine lv_iadd hx hb dX9_share_95 ?_
    refine lv_topi (fun xv ex => ?_)
    obtain rfl : xv = 0 := ex.trans (by first | rfl | decide)
    refine lv_iload hx hb dX9_share_96 (lv_at hl 0 rfl) ?_
    refine lv_if_ne (tgt := 105) hx hb dX9_share_98 (by decide) (fun h => absurd (by decide) h) (fun _ => ?_)
    refine lv_iconst (v := 0) hx hb dX9_share_101 (by decide) ?_
    refine lv_goto (tgt := 107) hx hb dX9_share_102 (by decide) ?_
    refine va_iast hx hb hK hP hD hS 4 0 rfl rfl (by unfold vp_in; decide) dX9_share_107 (fun H locs hP hD hS => ?_)
    have hP : va_P G vwCl [(h0, .inr (9, [f_h0_0, f_h0_1, f_h0_2, f_h0_3, f_h0_4, f_h0_5, .ref hd, f_h0_7, .ref hf, f_h0_9, f_h0_10])), (aW, .inr (10, [f_aW_0, .ref aC, f_aW_2, f_aW_3, f_aW_4, f_aW_5, f_aW_6])), (aC, .inr (1, [f_aC_0, f_aC_1, .int 0])), (hd, .inl (cs 0, 6, .inl g)), (hf, .inl (cs 0, 448, .inl (upd ff 0 0)))] H := hP
    have hD : va_D A [(h0, .inr (9, [f_h0_0, f_h0_1, f_h0_2, f_h0_3, f_h0_4, f_h0_5, .ref hd, f_h0_7, .ref hf, f_h0_9, f_h0_10])), (aW, .inr (10, [f_aW_0, .ref aC, f_aW_2, f_aW_3, f_aW_4, f_aW_5, f_aW_6])), (aC, .inr (1, [f_aC_0, f_aC_1, .int 0])), (hd, .inl (cs 0, 6, .inl g)), (hf, .inl (cs 0, 448, .inl (upd ff 0 0)))] := hD
    refine lv_iinc (v := 1) (lv' := [(8, .int 1), (7, .int 63), (6, .int 0), (0, .ref h0), (1, .ref aW), (2, .ref aA), (3, .long a), (5, .int (nI 6))]) hx hb dX9_share_108 hl (k := 0) rfl (by first | rfl | decide) (by decide) rfl (fun ls hl => ?_)
    refine lv_goto (tgt := 77) hx hb dX9_share_111 (by decide) ?_
    generalize (upd ff 0 0) = gf_58 at hP hD
    refine lv_iload hx hb dX9_share_77 (lv_at hl 0 rfl) ?_
    refine lv_iload hx hb dX9_share_79 (lv_at hl 1 rfl) ?_
    refine lv_icmp_gt (tgt := 114) hx hb dX9_share_81 (by decide) (fun h => absurd h (by decide)) (fun _ => ?_)
    refine lv_aload_n hx hb dX9_share_84 rfl (lv_at hl 3 rfl) ?_
    refine va_get (ci := 9) (v := .ref hf) (C := RX9) (T := TX9) (N := 11) hx hb htl inX9 hown hK hP 0 rfl rfl 8 (by decide) (htl _ fl_RX9_31) (fun _ h9 => h9) rfl dX9_share_85 ?_
    refine lv_iload hx hb dX9_share_88 (lv_at hl 2 rfl) ?_
    refine lv_bipush (v := 64) hx hb dX9_share_90 (by decide) ?_
    refine lv_imul hx hb dX9_share_92 ?_
    refine lv_topi (fun xv ex => ?_)
    obtain rfl : xv = 0 := ex.trans (by first | rfl | decide)
    refine lv_iload hx hb dX9_share_93 (lv_at hl 0 rfl) ?_
    refine lv_iadd hx hb dX9_share_95 ?_
    refine lv_topi (fun xv ex => ?_)
    obtain rfl : xv = 1 := ex.trans (by first | rfl | decide)
    refine lv_iload hx hb dX9_share_96 (lv_at hl 0 rfl) ?_
    refine lv_if_ne (tgt := 105) hx hb dX9_share_98 (by decide) (fun _ => ?_) (fun h => absurd h (by decide))
    refine lv_ldc hx hb hown (htl _ ct_RX9_68) dX9_share_105 ?_
    refine va_iast hx hb hK hP hD hS 4 0 rfl rfl (by unfold vp_in; decide) dX9_share_107 (fun H locs hP hD hS => ?_)
    have hP : va_P G vwCl [(h0, .inr (9, [f_h0_0, f_h0_1, f_h0_2, f_h0_3, f_h0_4, f_h0_5, .ref hd, f_h0_7, .ref hf, f_h0_9, f_h0_10])), (aW, .inr (10, [f_aW_0, .ref aC, f_aW_2, f_aW_3, f_aW_4, f_aW_5, f_aW_6])), (aC, .inr (1, [f_aC_0, f_aC_1, .int 0])), (hd, .inl (cs 0, 6, .inl g)), (hf, .inl (cs 0, 448, .inl (upd gf_58 1 1000000)))] H := hP
    have hD : va_D A [(h0, .inr (9, [f_h0_0, f_h0_1, f_h0_2, f_h0_3, f_h0_4, f_h0_5, .ref hd, f_h0_7, .ref hf, f_h0_9, f_h0_10])), (aW, .inr (10, [f_aW_0, .ref aC, f_aW_2, f_aW_3, f_aW_4, f_aW_5, f_aW_6])), (aC, .inr (1, [f_aC_0, f_aC_1, .int 0])), (hd, .inl (cs 0, 6, .inl g)), (hf, .inl (cs 0, 448, .inl (upd gf_58 1 1000000)))] := hD
    refine lv_iinc (v := 2) (lv' := [(8, .int 2), (7, .int 63), (6, .int 0), (0, .ref h0), (1, .ref aW), (2, .ref aA), (3, .long a), (5, .int (nI 6))]) hx hb dX9_share_108 hl (k := 0) rfl (by first | rfl | decide) (by decide) rfl (fun ls hl => ?_)
    refine lv_goto (tgt := 77) hx hb dX9_share_111 (by decide) ?_
    generalize (upd gf_58 1 1000000) = gf_59 at hP hD
    refine lv_iload hx hb dX9_share_77 (lv_at hl 0 rfl) ?_
    refine lv_iload hx hb dX9_share_79 (lv_at hl 1 rfl) ?_
    refine lv_icmp_gt (tgt := 114) hx hb dX9_share_81 (by decide) (fun h => absurd h (by decide)) (fun _ => ?_)
    refine lv_aload_n hx hb dX9_share_84 rfl (lv_at hl 3 rfl) ?_
    refine va_get (ci := 9) (v := .ref hf) (C := RX9) (T := TX9) (N := 11) hx hb htl inX9 hown hK hP 0 rfl rfl 8 (by decide) (htl _ fl_RX9_31) (fun _ h9 => h9) rfl dX9_share_85 ?_
    refine lv_iload hx hb dX9_share_88 (lv_at hl 2 rfl) ?_
    refine lv_bipush (v := 64) hx hb dX9_share_90 (by decide) ?_
    refine lv_imul hx hb dX9_share_92 ?_
    refine lv_topi (fun xv ex => ?_)
    obtain rfl : xv = 0 := ex.trans (by first | rfl | decide)
    refine lv_iload hx hb dX9_share_93 (lv_at hl 0 rfl) ?_
    refine lv_iadd hx hb dX9_share_95 ?_
    refine lv_topi (fun xv ex => ?_)
    obtain rfl : xv = 2 := ex.trans (by first | rfl | decide)
    refine lv_iload hx hb dX9_share_96 (lv_at hl 0 rfl) ?_
    refine lv_if_ne (tgt := 105) hx hb dX9_share_98 (by decide) (fun _ => ?_) (fun h => absurd h (by decide))
    refine lv_ldc hx hb hown (htl _ ct_RX9_68) dX9_share_105 ?_
    refine va_iast hx hb hK hP hD hS 4 0 rfl rfl (by unfold vp_in; decide) dX9_share_107 (fun H locs hP hD hS => ?_)
    have hP : va_P G vwCl [(h0, .inr (9, [f_h0_0, f_h0_1, f_h0_2, f_h0_3, f_h0_4, f_h0_5, .ref hd, f_h0_7, .ref hf, f_h0_9, f_h0_10])), (aW, .inr (10, [f_aW_0, .ref aC, f_aW_2, f_aW_3, f_aW_4, f_aW_5, f_aW_6])), (aC, .inr (1, [f_aC_0, f_aC_1, .int 0])), (hd, .inl (cs 0, 6, .inl g)), (hf, .inl (cs 0, 448, .inl (upd gf_59 2 1000000)))] H := hP
    have hD : va_D A [(h0, .inr (9, [f_h0_0, f_h0_1, f_h0_2, f_h0_3, f_h0_4, f_h0_5, .ref hd, f_h0_7, .ref hf, f_h0_9, f_h0_10])), (aW, .inr (10, [f_aW_0, .ref aC, f_aW_2, f_aW_3, f_aW_4, f_aW_5, f_aW_6])), (aC, .inr (1, [f_aC_0, f_aC_1, .int 0])), (hd, .inl (cs 0, 6, .inl g)), (hf, .inl (cs 0, 448, .inl (upd gf_59 2 1000000)))] := hD
    refine lv_iinc (v := 3) (lv' := [(8, .int 3), (7, .int 63), (6, .int 0), (0, .ref h0), (1, .ref aW), (2, .ref aA), (3, .long a), (5, .int (nI 6))]) hx hb dX9_share_108 hl (k := 0) rfl (by first | rfl | decide) (by decide) rfl (fun ls hl => ?_)
    refine lv_goto (tgt := 77) hx hb dX9_share_111 (by decide) ?_
    generalize (upd gf_59 2 1000000) = gf_60 at hP hD
    refine lv_iload hx hb dX9_share_77 (lv_at hl 0 rfl) ?_
    refine lv_iload hx hb dX9_share_79 (lv_at hl 1 rfl) ?_
    refine lv_icmp_gt (tgt := 114) hx hb dX9_share_81 (by decide) (fun h => absurd h (by decide)) (fun _ => ?_)
    refine lv_aload_n hx hb dX9_share_84 rfl (lv_at hl 3 rfl) ?_
    refine va_get (ci := 9) (v := .ref hf) (C := RX9) (T := TX9) (N := 11) hx hb htl inX9 hown hK hP 0 rfl rfl 8 (by decide) (htl _ fl_RX9_31) (fun _ h9 => h9) rfl dX9_share_85 ?_
    refine lv_iload hx hb dX9_share_88 (lv_at hl 2 rfl) ?_
    refine lv_bipush (v := 64) hx hb dX9_share_90 (by decide) ?_
    refine lv_imul hx hb dX9_share_92 ?_
    refine lv_topi (fun xv ex => ?_)
    obtain rfl : xv = 0 := ex.trans (by first | rfl | decide)
    refine lv_iload hx hb dX9_share_93 (lv_at hl 0 rfl) ?_
    refine lv_iadd hx hb dX9_share_95 ?_
    refine lv_topi (fun xv ex => ?_)
    obtain rfl : xv = 3 := ex.trans (by first | rfl | decide)
    refine lv_iload hx hb dX9_share_96 (lv_at hl 0 rfl) ?_
    refine lv_if_ne (tgt := 105) hx hb dX9_share_98 (by decide) (fun _ => ?_) (fun h => absurd h (by decide))
    refine lv_ldc hx hb hown (htl _ ct_RX9_68) dX9_share_105 ?_
    refine va_iast hx hb hK hP hD hS 4 0 rfl rfl (by unfold vp_in; decide) dX9_share_107 (fun H locs hP hD hS => ?_)
    have hP : va_P G vwCl [(h0, .inr (9, [f_h0_0, f_h0_1, f_h0_2, f_h0_3, f_h0_4, f_h0_5, .ref hd, f_h0_7, .ref hf, f_h0_9, f_h0_10])), (aW, .inr (10, [f_aW_0, .ref aC, f_aW_2, f_aW_3, f_aW_4, f_aW_5, f_aW_6])), (aC, .inr (1, [f_aC_0, f_aC_1, .int 0])), (hd, .inl (cs 0, 6, .inl g)), (hf, .inl (cs 0, 448, .inl (upd gf_60 3 1000000)))] H := hP
    have hD : va_D A [(h0, .inr (9, [f_h0_0, f_h0_1, f_h0_2, f_h0_3, f_h0_4, f_h0_5, .ref hd, f_h0_7, .ref hf, f_h0_9, f_h0_10])), (aW, .inr (10, [f_aW_0, .ref aC, f_aW_2, f_aW_3, f_aW_4, f_aW_5, f_aW_6])), (aC, .inr (1, [f_aC_0, f_aC_1, .int 0])), (hd, .inl (cs 0, 6, .inl g)), (hf, .inl (cs 0, 448, .inl (upd gf_60 3 1000000)))] := hD
    refine lv_iinc (v := 4) (lv' := [(8, .int 4), (7, .int 63), (6, .int 0), (0, .ref h0), (1, .ref aW), (2, .ref aA), (3, .long a), (5, .int (nI 6))]) hx hb dX9_share_108 hl (k := 0) rfl (by first | rfl | decide) (by decide) rfl (fun ls hl => ?_)
    refine lv_goto (tgt := 77) hx hb dX9_share_111 (by decide) ?_
    generalize (upd gf_60 3 1000000) = gf_61 at hP hD
    refine lv_iload hx hb dX9_share_77 (lv_at hl 0 rfl) ?_
    refine lv_iload hx hb dX9_share_79 (lv_at hl 1 rfl) ?_
    refine lv_icmp_gt (tgt := 114) hx hb dX9_share_81 (by decide) (fun h => absurd h (by decide)) (fun _ => ?_)
    refine lv_aload_n hx hb dX9_share_84 rfl (lv_at hl 3 rfl) ?_
    refine va_get (ci := 9) (v := .ref hf) (C := RX9) (T := TX9) (N := 11) hx hb htl inX9 hown hK hP 0 rfl rfl 8 (by decide) (htl _ fl_RX9_31) (fun _ h9 => h9) rfl dX9_share_85 ?_
    refine lv_iload hx hb dX9_share_88 (lv_at hl 2 rfl) ?_
    refine lv_bipush (v := 64) hx hb dX9_share_90 (by decide) ?_
    refine lv_imul hx hb dX9_share_92 ?_
    refine lv_topi (fun xv ex => ?_)
    obtain rfl : xv = 0 := ex.trans (by first | rfl | decide)
    refine lv_iload hx hb dX9_share_93 (lv_at hl 0 rfl) ?_
    refine lv_iadd hx hb dX9_share_95 ?_
    refine lv_topi (fun xv ex => ?_)
    obtain rfl : xv = 4 := ex.trans (by first | rfl | decide)
    refine lv_iload hx hb dX9_share_96 (lv_at hl 0 rfl) ?_
    refine lv_if_ne (tgt := 105) hx hb dX9_share_98 (by decide) (fun _ => ?_) (fun h => absurd h (by decide))
    refine lv_ldc hx hb hown (htl _ ct_RX9_68) dX9_share_105 ?_
    refine va_iast hx hb hK hP hD hS 4 0 rfl rfl (by unfold vp_in; decide) dX9_share_107 (fun H locs hP hD hS => ?_)
    have hP : va_P G vwCl [(h0, .inr (9, [f_h0_0, f_h0_1, f_h0_2, f_h0_3, f_h0_4, f_h0_5, .ref hd, f_h0_7, .ref hf, f_h0_9, f_h0_10])), (aW, .inr (10, [f_aW_0, .ref aC, f_aW_2, f_aW_3, f_aW_4, f_aW_5, f_aW_6])), (aC, .inr (1, [f_aC_0, f_aC_1, .int 0])), (hd, .inl (cs 0, 6, .inl g)), (hf, .inl (cs 0, 448, .inl (upd gf_61 4 1000000)))] H := hP
    have hD : va_D A [(h0, .inr (9, [f_h0_0, f_h0_1, f_h0_2, f_h0_3, f_h0_4, f_h0_5, .ref hd, f_h0_7, .ref hf, f_h0_9, f_h0_10])), (aW, .inr (10, [f_aW_0, .ref aC, f_aW_2, f_aW_3, f_aW_4, f_aW_5, f_aW_6])), (aC, .inr (1, [f_aC_0, f_aC_1, .int 0])), (hd, .inl (cs 0, 6, .inl g)), (hf, .inl (cs 0, 448, .inl (upd gf_61 4 1000000)))] := hD
    refine lv_iinc (v := 5) (lv' := [(8, .int 5), (7, .int 63), (6, .int 0), (0, .ref h0), (1, .ref aW), (2, .ref aA), (3, .long a), (5, .int (nI 6))]) hx hb dX9_share_108 hl (k := 0) rfl (by first | rfl | decide) (by decide) rfl (fun ls hl => ?_)
    refine lv_goto (tgt := 77) hx hb dX9_share_111 (by decide) ?_
    generalize (upd gf_61 4 1000000) = gf_62 at hP hD
    refine lv_iload hx hb dX9_share_77 (lv_at hl 0 rfl) ?_
    refine lv_iload hx hb dX9_share_79 (lv_at hl 1 rfl) ?_
    refine lv_icmp_gt (tgt := 114) hx hb dX9_share_81 (by decide) (fun h => absurd h (by decide)) (fun _ => ?_)
    refine lv_aload_n hx hb dX9_share_84 rfl (lv_at hl 3 rfl) ?_
    refine va_get (ci := 9) (v := .ref hf) (C := RX9) (T := TX9) (N := 11) hx hb htl inX9 hown hK hP 0 rfl rfl 8 (by decide) (htl _ fl_RX9_31) (fun _ h9 => h9) rfl dX9_share_85 ?_
    refine lv_iload hx hb dX9_share_88 (lv_at hl 2 rfl) ?_
    refine lv_bipush (v := 64) hx hb dX9_share_90 (by decide) ?_
    refine lv_imul hx hb dX9_share_92 ?_
    refine lv_topi (fun xv ex => ?_)
    obtain rfl : xv = 0 := ex.trans (by first | rfl | decide)
    refine lv_iload hx hb dX9_share_93 (lv_at hl 0 rfl) ?_
    refine lv_iadd hx hb dX9_share_95 ?_
    refine lv_topi (fun xv ex => ?_)
    obtain rfl : xv = 5 := ex.trans (by first | rfl | decide)
    refine lv_iload hx hb dX9_share_96 (lv_at hl 0 rfl) ?_
    refine lv_if_ne (tgt := 105) hx hb dX9_share_98 (by decide) (fun _ => ?_) (fun h => absurd h (by decide))
    refine lv_ldc hx hb hown (htl _ ct_RX9_68) dX9_share_105 ?_
    refine va_iast hx hb hK hP hD hS 4 0 rfl rfl (by unfold vp_in; decide) dX9_share_107 (fun H locs hP hD hS => ?_)
    have hP : va_P G vwCl [(h0, .inr (9, [f_h0_0, f_h0_1, f_h0_2, f_h0_3, f_h0_4, f_h0_5, .ref hd, f_h0_7, .ref hf, f_h0_9, f_h0_10])), (aW, .inr (10, [f_aW_0, .ref aC, f_aW_2, f_aW_3, f_aW_4, f_aW_5, f_aW_6])), (aC, .inr (1, [f_aC_0, f_aC_1, .int 0])), (hd, .inl (cs 0, 6, .inl g)), (hf, .inl (cs 0, 448, .inl (upd gf_62 5 1000000)))] H := hP
    have hD : va_D A [(h0, .inr (9, [f_h0_0, f_h0_1, f_h0_2, f_h0_3, f_h0_4, f_h0_5, .ref hd, f_h0_7, .ref hf, f_h0_9, f_h0_10])), (aW, .inr (10, [f_aW_0, .ref aC, f_aW_2, f_aW_3, f_aW_4, f_aW_5, f_aW_6])), (aC, .inr (1, [f_aC_0, f_aC_1, .int 0])), (hd, .inl (cs 0, 6, .inl g)), (hf, .inl (cs 0, 448, .inl (upd gf_62 5 1000000)))] := hD
    refine lv_iinc (v := 6) (lv' := [(8, .int 6), (7, .int 63), (6, .int 0), (0, .ref h0), (1, .ref aW), (2, .ref aA), (3, .long a), (5, .int (nI 6))]) hx hb dX9_share_108 hl (k := 0) rfl (by first | rfl | decide) (by decide) rfl (fun ls hl => ?_)
    refine lv_goto (tgt := 77) hx hb dX9_share_111 (by decide) ?_
    generalize (upd gf_62 5 1000000) = gf_63 at hP hD
    refine lv_iload hx hb dX9_share_77 (lv_at hl 0 rfl) ?_
    refine lv_iload hx hb dX9_share_79 (lv_at hl 1 rfl) ?_
    refine lv_icmp_gt (tgt := 114) hx hb dX9_share_81 (by decide) (fun h => absurd h (by decide)) (fun _ => ?_)
    refine lv_aload_n hx hb dX9_share_84 rfl (lv_at hl 3 rfl) ?_
    refine va_get (ci := 9) (v := .ref hf) (C := RX9) (T := TX9) (N := 11) hx hb htl inX9 hown hK hP 0 rfl rfl 8 (by decide) (htl _ fl_RX9_31) (fun _ h9 => h9) rfl dX9_share_85 ?_
    refine lv_iload hx hb dX9_share_88 (lv_at hl 2 rfl) ?_
    refine lv_bipush (v := 64) hx hb dX9_share_90 (by decide) ?_
    refine lv_imul hx hb dX9_share_92 ?_
    refine lv_topi (fun xv ex => ?_)
    obtain rfl : xv = 0 := ex.trans (by first | rfl | decide)
    refine lv_iload hx hb dX9_share_93 (lv_at hl 0 rfl) ?_
    refine lv_iadd hx hb dX9_share_95 ?_
    refine lv_topi (fun xv ex => ?_)
    obtain rfl : xv = 6 := ex.trans (by first | rfl | decide)
    refine lv_iload hx hb dX9_share_96 (lv_at hl 0 rfl) ?_
    refine lv_if_ne (tgt := 105) hx hb dX9_share_98 (by decide) (fun _ => ?_) (fun h => absurd h (by decide))
    refine lv_ldc hx hb hown (htl _ ct_RX9_68) dX9_share_105 ?_
    refine va_iast hx hb hK hP hD hS 4 0 rfl rfl (by unfold vp_in; decide) dX9_share_107 (fun H locs hP hD hS => ?_)
    have hP : va_P G vwCl [(h0, .inr (9, [f_h0_0, f_h0_1, f_h0_2, f_h0_3, f_h0_4, f_h0_5, .ref hd, f_h0_7, .ref hf, f_h0_9, f_h0_10])), (aW, .inr (10, [f_aW_0, .ref aC, f_aW_2, f_aW_3, f_aW_4, f_aW_5, f_aW_6])), (aC, .inr (1, [f_aC_0, f_aC_1, .int 0])), (hd, .inl (cs 0, 6, .inl g)), (hf, .inl (cs 0, 448, .inl (upd gf_63 6 1000000)))] H := hP
    have hD : va_D A [(h0, .inr (9, [f_h0_0, f_h0_1, f_h0_2, f_h0_3, f_h0_4, f_h0_5, .ref hd, f_h0_7, .ref hf, f_h0_9, f_h0_10])), (aW, .inr (10, [f_aW_0, .ref aC, f_aW_2, f_aW_3, f_aW_4, f_aW_5, f_aW_6])), (aC, .inr (1, [f_aC_0, f_aC_1, .int 0])), (hd, .inl (cs 0, 6, .inl g)), (hf, .inl (cs 0, 448, .inl (upd gf_63 6 1000000)))] := hD
    refine lv_iinc (v := 7) (lv' := [(8, .int 7), (7, .int 63), (6, .int 0), (0, .ref h0), (1, .ref aW), (2, .ref aA), (3, .long a), (5, .int (nI 6))]) hx hb dX9_share_108 hl (k := 0) rfl (by first | rfl | decide) (by decide) rfl (fun ls hl => ?_)
    refine lv_goto (tgt := 77) hx hb dX9_share_111 (by decide) ?_
    generalize (upd gf_63 6 1000000) = gf_64 at hP hD
    refine lv_iload hx hb dX9_share_77 (lv_at hl 0 rfl) ?_
    refine lv_iload hx hb dX9_share_79 (lv_at hl 1 rfl) ?_
    refine lv_icmp_gt (tgt := 114) hx hb dX9_share_81 (by decide) (fun h => absurd h (by decide)) (fun _ => ?_)
    refine lv_aload_n hx hb dX9_share_84 rfl (lv_at hl 3 rfl) ?_
    refine va_get (ci := 9) (v := .ref hf) (C := RX9) (T := TX9) (N := 11) hx hb htl inX9 hown hK hP 0 rfl rfl 8 (by decide) (htl _ fl_RX9_31) (fun _ h9 => h9) rfl dX9_share_85 ?_
    refine lv_iload hx hb dX9_share_88 (lv_at hl 2 rfl) ?_
    refine lv_bipush (v := 64) hx hb dX9_share_90 (by decide) ?_
    refine lv_imul hx hb dX9_share_92 ?_
    refine lv_topi (fun xv ex => ?_)
    obtain rfl : xv = 0 := ex.trans (by first | rfl | decide)
    refine lv_iload hx hb dX9_share_93 (lv_at hl 0 rfl) ?_
    refine lv_iadd hx hb dX9_share_95 ?_
    refine lv_topi (fun xv ex => ?_)
    obtain rfl : xv = 7 := ex.trans (by first | rfl | decide)
    refine lv_iload hx hb dX9_share_96 (lv_at hl 0 rfl) ?_
    refine lv_if_ne (tgt := 105) hx hb dX9_share_98 (by decide) (fun _ => ?_) (fun h => absurd h (by decide))
    refine lv_ldc hx hb hown (htl _ ct_RX9_68) dX9_share_105 ?_
    refine va_iast hx hb hK hP hD hS 4 0 rfl rfl (by unfold vp_in; decide) dX9_share_107 (fun H locs hP hD hS => ?_)
    have hP : va_P G vwCl [(h0, .inr (9, [f_h0_0, f_h0_1, f_h0_2, f_h0_3, f_h0_4, f_h0_5, .ref hd, f_h0_7, .ref hf, f_h0_9, f_h0_10])), (aW, .inr (10, [f_aW_0, .ref aC, f_aW_2, f_aW_3, f_aW_4, f_aW_5, f_aW_6])), (aC, .inr (1, [f_aC_0, f_aC_1, .int 0])), (hd, .inl (cs 0, 6, .inl g)), (hf, .inl (cs 0, 448, .inl (upd gf_64 7 1000000)))] H := hP
    have hD : va_D A [(h0, .inr (9, [f_h0_0, f_h0_1, f_h0_2, f_h0_3, f_h0_4, f_h0_5, .ref hd, f_h0_7, .ref hf, f_h0_9, f_h0_10])), (aW, .inr (10, [f_aW_0, .ref aC, f_aW_2, f_aW_3, f_aW_4, f_aW_5, f_aW_6])), (aC, .inr (1, [f_aC_0, f_aC_1, .int 0])), (hd, .inl (cs 0, 6, .inl g)), (hf, .inl (cs 0, 448, .inl (upd gf_64 7 1000000)))] := hD
    refine lv_iinc (v := 8) (lv' := [(8, .int 8), (7, .int 63), (6, .int 0), (0, .ref h0), (1, .ref aW), (2, .ref aA), (3, .long a), (5, .int (nI 6))]) hx hb dX9_share_108 hl (k := 0) rfl (by first | rfl | decide) (by decide) rfl (fun ls hl => ?_)
    refine lv_goto (tgt := 77) hx hb dX9_share_111 (by decide) ?_
    generalize (upd gf_64 7 1000000) = gf_65 at hP hD
    refine lv_iload hx hb dX9_share_77 (lv_at hl 0 rfl) ?_
    refine lv_iload hx hb dX9_share_79 (lv_at hl 1 rfl) ?_
    refine lv_icmp_gt (tgt := 114) hx hb dX9_share_81 (by decide) (fun h => absurd h (by decide)) (fun _ => ?_)
    refine lv_aload_n hx hb dX9_share_84 rfl (lv_at hl 3 rfl) ?_
    refine va_get (ci := 9) (v := .ref hf) (C := RX9) (T := TX9) (N := 11) hx hb htl inX9 hown hK hP 0 rfl rfl 8 (by decide) (htl _ fl_RX9_31) (fun _ h9 => h9) rfl dX9_share_85 ?_
    refine lv_iload hx hb dX9_share_88 (lv_at hl 2 rfl) ?_
    refine lv_bipush (v := 64) hx hb dX9_share_90 (by decide) ?_
    refine lv_imul hx hb dX9_share_92 ?_
    refine lv_topi (fun xv ex => ?_)
    obtain rfl : xv = 0 := ex.trans (by first | rfl | decide)
    refine lv_iload hx hb dX9_share_93 (lv_at hl 0 rfl) ?_
    refine lv_iadd hx hb dX9_share_95 ?_
    refine lv_topi (fun xv ex => ?_)
    obtain rfl : xv = 8 := ex.trans (by first | rfl | decide)
    refine lv_iload hx hb dX9_share_96 (lv_at hl 0 rfl) ?_
    refine lv_if_ne (tgt := 105) hx hb dX9_share_98 (by decide) (fun _ => ?_) (fun h => absurd h (by decide))
    refine lv_ldc hx hb hown (htl _ ct_RX9_68) dX9_share_105 ?_
    refine va_iast hx hb hK hP hD hS 4 0 rfl rfl (by unfold vp_in; decide) dX9_share_107 (fun H locs hP hD hS => ?_)
    have hP : va_P G vwCl [(h0, .inr (9, [f_h0_0, f_h0_1, f_h0_2, f_h0_3, f_h0_4, f_h0_5, .ref hd, f_h0_7, .ref hf, f_h0_9, f_h0_10])), (aW, .inr (10, [f_aW_0, .ref aC, f_aW_2, f_aW_3, f_aW_4, f_aW_5, f_aW_6])), (aC, .inr (1, [f_aC_0, f_aC_1, .int 0])), (hd, .inl (cs 0, 6, .inl g)), (hf, .inl (cs 0, 448, .inl (upd gf_65 8 1000000)))] H := hP
    have hD : va_D A [(h0, .inr (9, [f_h0_0, f_h0_1, f_h0_2, f_h0_3, f_h0_4, f_h0_5, .ref hd, f_h0_7, .ref hf, f_h0_9, f_h0_10])), (aW, .inr (10, [f_aW_0, .ref aC, f_aW_2, f_aW_3, f_aW_4, f_aW_5, f_aW_6])), (aC, .inr (1, [f_aC_0, f_aC_1, .int 0])), (hd, .inl (cs 0, 6, .inl g)), (hf, .inl (cs 0, 448, .inl (upd gf_65 8 1000000)))] := hD
    refine lv_iinc (v := 9) (lv' := [(8, .int 9), (7, .int 63), (6, .int 0), (0, .ref h0), (1, .ref aW), (2, .ref aA), (3, .long a), (5, .int (nI 6))]) hx hb dX9_share_108 hl (k := 0) rfl (by first | rfl | decide) (by decide) rfl (fun ls hl => ?_)
    refine lv_goto (tgt := 77) hx hb dX9_share_111 (by decide) ?_
    generalize (upd gf_65 8 1000000) = gf_66 at hP hD
    refine lv_iload hx hb dX9_share_77 (lv_at hl 0 rfl) ?_
    refine lv_iload hx hb dX9_share_79 (lv_at hl 1 rfl) ?_
    refine lv_icmp_gt (tgt := 114) hx hb dX9_share_81 (by decide) (fun h => absurd h (by decide)) (fun _ => ?_)
    refine lv_aload_n hx hb dX9_share_84 rfl (lv_at hl 3 rfl) ?_
    refine va_get (ci := 9) (v := .ref hf) (C := RX9) (T := TX9) (N := 11) hx hb htl inX9 hown hK hP 0 rfl rfl 8 (by decide) (htl _ fl_RX9_31) (fun _ h9 => h9) rfl dX9_share_85 ?_
    refine lv_iload hx hb dX9_share_88 (lv_at hl 2 rfl) ?_
    refine lv_bipush (v := 64) hx hb dX9_share_90 (by decide) ?_
    refine lv_imul hx hb dX9_share_92 ?_
    refine lv_topi (fun xv ex => ?_)
    obtain rfl : xv = 0 := ex.trans (by first | rfl | decide)
    refine lv_iload hx hb dX9_share_93 (lv_at hl 0 rfl) ?_
    refine lv_iadd hx hb dX9_share_95 ?_
    refine lv_topi (fun xv ex => ?_)
    obtain rfl : xv = 9 := ex.trans (by first | rfl | decide)
    refine lv_iload hx hb dX9_share_96 (lv_at hl 0 rfl) ?_
    refine lv_if_ne (tgt := 105) hx hb dX9_share_98 (by decide) (fun _ => ?_) (fun h => absurd h (by decide))
    refine lv_ldc hx hb hown (htl _ ct_RX9_68) dX9_share_105 ?_
    refine va_iast hx hb hK hP hD hS 4 0 rfl rfl (by unfold vp_in; decide) dX9_share_107 (fun H locs hP hD hS => ?_)
    have hP : va_P G vwCl [(h0, .inr (9, [f_h0_0, f_h0_1, f_h0_2, f_h0_3, f_h0_4, f_h0_5, .ref hd, f_h0_7, .ref hf, f_h0_9, f_h0_10])), (aW, .inr (10, [f_aW_0, .ref aC, f_aW_2, f_aW_3, f_aW_4, f_aW_5, f_aW_6])), (aC, .inr (1, [f_aC_0, f_aC_1, .int 0])), (hd, .inl (cs 0, 6, .inl g)), (hf, .inl (cs 0, 448, .inl (upd gf_66 9 1000000)))] H := hP
    have hD : va_D A [(h0, .inr (9, [f_h0_0, f_h0_1, f_h0_2, f_h0_3, f_h0_4, f_h0_5, .ref hd, f_h0_7, .ref hf, f_h0_9, f_h0_10])), (aW, .inr (10, [f_aW_0, .ref aC, f_aW_2, f_aW_3, f_aW_4, f_aW_5, f_aW_6])), (aC, .inr (1, [f_aC_0, f_aC_1, .int 0])), (hd, .inl (cs 0, 6, .inl g)), (hf, .inl (cs 0, 448, .inl (upd gf_66 9 1000000)))] := hD
    refine lv_iinc (v := 10) (lv' := [(8, .int 10), (7, .int 63), (6, .int 0), (0, .ref h0), (1, .ref aW), (2, .ref aA), (3, .long a), (5, .int (nI 6))]) hx hb dX9_share_108 hl (k := 0) rfl (by first | rfl | decide) (by decide) rfl (fun ls hl => ?_)
    refine lv_goto (tgt := 77) hx hb dX9_share_111 (by decide) ?_
    generalize (upd gf_66 9 1000000) = gf_67 at hP hD
    refine lv_iload hx hb dX9_share_77 (lv_at hl 0 rfl) ?_
    refine lv_iload hx hb dX9_share_79 (lv_at hl 1 rfl) ?_
    refine lv_icmp_gt (tgt := 114) hx hb dX9_share_81 (by decide) (fun h => absurd h (by decide)) (fun _ => ?_)
    refine lv_aload_n hx hb dX9_share_84 rfl (lv_at hl 3 rfl) ?_
    refine va_get (ci := 9) (v := .ref hf) (C := RX9) (T := TX9) (N := 11) hx hb htl inX9 hown hK hP 0 rfl rfl 8 (by decide) (htl _ fl_RX9_31) (fun _ h9 => h9) rfl dX9_share_85 ?_
    refine lv_iload hx hb dX9_share_88 (lv_at hl 2 rfl) ?_
    refine lv_bipush (v := 64) hx hb dX9_share_90 (by decide) ?_
    refine lv_imul hx hb dX9_share_92 ?_
    refine lv_topi (fun xv ex => ?_)
    obtain rfl : xv = 0 := ex.trans (by first | rfl | decide)
    refine lv_iload hx hb dX9_share_93 (lv_at hl 0 rfl) ?_
    refine lv_iadd hx hb dX9_share_95 ?_
    refine lv_topi (fun xv ex => ?_)
    obtain rfl : xv = 10 := ex.trans (by first | rfl | decide)
    refine lv_iload hx hb dX9_share_96 (lv_at hl 0 rfl) ?_
    refine lv_if_ne (tgt := 105) hx hb dX9_share_98 (by decide) (fun _ => ?_) (fun h => absurd h (by decide))
    refine lv_ldc hx hb hown (htl _ ct_RX9_68) dX9_share_105 ?_
    refine va_iast hx hb hK hP hD hS 4 0 rfl rfl (by unfold vp_in; decide) dX9_share_107 (fun H locs hP hD hS => ?_)
    have hP : va_P G vwCl [(h0, .inr (9, [f_h0_0, f_h0_1, f_h0_2, f_h0_3, f_h0_4, f_h0_5, .ref hd, f_h0_7, .ref hf, f_h0_9, f_h0_10])), (aW, .inr (10, [f_aW_0, .ref aC, f_aW_2, f_aW_3, f_aW_4, f_aW_5, f_aW_6])), (aC, .inr (1, [f_aC_0, f_aC_1, .int 0])), (hd, .inl (cs 0, 6, .inl g)), (hf, .inl (cs 0, 448, .inl (upd gf_67 10 1000000)))] H := hP
    have hD : va_D A [(h0, .inr (9, [f_h0_0, f_h0_1, f_h0_2, f_h0_3, f_h0_4, f_h0_5, .ref hd, f_h0_7, .ref hf, f_h0_9, f_h0_10])), (aW, .inr (10, [f_aW_0, .ref aC, f_aW_2, f_aW_3, f_aW_4, f_aW_5, f_aW_6])), (aC, .inr (1, [f_aC_0, f_aC_1, .int 0])), (hd, .inl (cs 0, 6, .inl g)), (hf, .inl (cs 0, 448, .inl (upd gf_67 10 1000000)))] := hD
    refine lv_iinc (v := 11) (lv' := [(8, .int 11), (7, .int 63), (6, .int 0), (0, .ref h0), (1, .ref aW), (2, .ref aA), (3, .long a), (5, .int (nI 6))]) hx hb dX9_share_108 hl (k := 0) rfl (by first | rfl | decide) (by decide) rfl (fun ls hl => ?_)
    refine lv_goto (tgt := 77) hx hb dX9_share_111 (by decide) ?_
    generalize (upd gf_67 10 1000000) = gf_68 at hP hD
    refine lv_iload hx hb dX9_share_77 (lv_at hl 0 rfl) ?_
    refine lv_iload hx hb dX9_share_79 (lv_at hl 1 rfl) ?_
    refine lv_icmp_gt (tgt := 114) hx hb dX9_share_81 (by decide) (fun h => absurd h (by decide)) (fun _ => ?_)
    refine lv_aload_n hx hb dX9_share_84 rfl (lv_at hl 3 rfl) ?_
    refine va_get (ci := 9) (v := .ref hf) (C := RX9) (T := TX9) (N := 11) hx hb htl inX9 hown hK hP 0 rfl rfl 8 (by decide) (htl _ fl_RX9_31) (fun _ h9 => h9) rfl dX9_share_85 ?_
    refine lv_iload hx hb dX9_share_88 (lv_at hl 2 rfl) ?_
    refine lv_bipush (v := 64) hx hb dX9_share_90 (by decide) ?_
    refine lv_imul hx hb dX9_share_92 ?_
    refine lv_topi (fun xv ex => ?_)
    obtain rfl : xv = 0 := ex.trans (by first | rfl | decide)
    refine lv_iload hx hb dX9_share_93 (lv_at hl 0 rfl) ?_
    refine lv_iadd hx hb dX9_share_95 ?_
    refine lv_topi (fun xv ex => ?_)
    obtain rfl : xv = 11 := ex.trans (by first | rfl | decide)
    refine lv_iload hx hb dX9_share_96 (lv_at hl 0 rfl) ?_
    refine lv_if_ne (tgt := 105) hx hb dX9_share_98 (by decide) (fun _ => ?_) (fun h => absurd h (by decide))
    refine lv_ldc hx hb hown (htl _ ct_RX9_68) dX9_share_105 ?_
    refine va_iast hx hb hK hP hD hS 4 0 rfl rfl (by unfold vp_in; decide) dX9_share_107 (fun H locs hP hD hS => ?_)
    have hP : va_P G vwCl [(h0, .inr (9, [f_h0_0, f_h0_1, f_h0_2, f_h0_3, f_h0_4, f_h0_5, .ref hd, f_h0_7, .ref hf, f_h0_9, f_h0_10])), (aW, .inr (10, [f_aW_0, .ref aC, f_aW_2, f_aW_3, f_aW_4, f_aW_5, f_aW_6])), (aC, .inr (1, [f_aC_0, f_aC_1, .int 0])), (hd, .inl (cs 0, 6, .inl g)), (hf, .inl (cs 0, 448, .inl (upd gf_68 11 1000000)))] H := hP
    have hD : va_D A [(h0, .inr (9, [f_h0_0, f_h0_1, f_h0_2, f_h0_3, f_h0_4, f_h0_5, .ref hd, f_h0_7, .ref hf, f_h0_9, f_h0_10])), (aW, .inr (10, [f_aW_0, .ref aC, f_aW_2, f_aW_3, f_aW_4, f_aW_5, f_aW_6])), (aC, .inr (1, [f_aC_0, f_aC_1, .int 0])), (hd, .inl (cs 0, 6, .inl g)), (hf, .inl (cs 0, 448, .inl (upd gf_68 11 1000000)))] := hD
    refine lv_iinc (v := 12) (lv' := [(8, .int 12), (7, .int 63), (6, .int 0), (0, .ref h0), (1, .ref aW), (2, .ref aA), (3, .long a), (5, .int (nI 6))]) hx hb dX9_share_108 hl (k := 0) rfl (by first | rfl | decide) (by decide) rfl (fun ls hl => ?_)
    refine lv_goto (tgt := 77) hx hb dX9_share_111 (by decide) ?_
    generalize (upd gf_68 11 1000000) = gf_69 at hP hD
    refine lv_iload hx hb dX9_share_77 (lv_at hl 0 rfl) ?_
    refine lv_iload hx hb dX9_share_79 (lv_at hl 1 rfl) ?_
    refine lv_icmp_gt (tgt := 114) hx hb dX9_share_81 (by decide) (fun h => absurd h (by decide)) (fun _ => ?_)
    refine lv_aload_n hx hb dX9_share_84 rfl (lv_at hl 3 rfl) ?_
    refine va_get (ci := 9) (v := .ref hf) (C := RX9) (T := TX9) (N := 11) hx hb htl inX9 hown hK hP 0 rfl rfl 8 (by decide) (htl _ fl_RX9_31) (fun _ h9 => h9) rfl dX9_share_85 ?_
    refine lv_iload hx hb dX9_share_88 (lv_at hl 2 rfl) ?_
    refine lv_bipush (v := 64) hx hb dX9_share_90 (by decide) ?_
    refine lv_imul hx hb dX9_share_92 ?_
    refine lv_topi (fun xv ex => ?_)
    obtain rfl : xv = 0 := ex.trans (by first | rfl | decide)
    refine lv_iload hx hb dX9_share_93 (lv_at hl 0 rfl) ?_
    refine lv_iadd hx hb dX9_share_95 ?_
    refine lv_topi (fun xv ex => ?_)
    obtain rfl : xv = 12 := ex.trans (by first | rfl | decide)
    refine lv_iload hx hb dX9_share_96 (lv_at hl 0 rfl) ?_
    refine lv_if_ne (tgt := 105) hx hb dX9_share_98 (by decide) (fun _ => ?_) (fun h => absurd h (by decide))
    refine lv_ldc hx hb hown (htl _ ct_RX9_68) dX9_share_105 ?_
    refine va_iast hx hb hK hP hD hS 4 0 rfl rfl (by unfold vp_in; decide) dX9_share_107 (fun H locs hP hD hS => ?_)
    have hP : va_P G vwCl [(h0, .inr (9, [f_h0_0, f_h0_1, f_h0_2, f_h0_3, f_h0_4, f_h0_5, .ref hd, f_h0_7, .ref hf, f_h0_9, f_h0_10])), (aW, .inr (10, [f_aW_0, .ref aC, f_aW_2, f_aW_3, f_aW_4, f_aW_5, f_aW_6])), (aC, .inr (1, [f_aC_0, f_aC_1, .int 0])), (hd, .inl (cs 0, 6, .inl g)), (hf, .inl (cs 0, 448, .inl (upd gf_69 12 1000000)))] H := hP
    have hD : va_D A [(h0, .inr (9, [f_h0_0, f_h0_1, f_h0_2, f_h0_3, f_h0_4, f_h0_5, .ref hd, f_h0_7, .ref hf, f_h0_9, f_h0_10])), (aW, .inr (10, [f_aW_0, .ref aC, f_aW_2, f_aW_3, f_aW_4, f_aW_5, f_aW_6])), (aC, .inr (1, [f_aC_0, f_aC_1, .int 0])), (hd, .inl (cs 0, 6, .inl g)), (hf, .inl (cs 0, 448, .inl (upd gf_69 12 1000000)))] := hD
    refine lv_iinc (v := 13) (lv' := [(8, .int 13), (7, .int 63), (6, .int 0), (0, .ref h0), (1, .ref aW), (2, .ref aA), (3, .long a), (5, .int (nI 6))]) hx hb dX9_share_108 hl (k := 0) rfl (by first | rfl | decide) (by decide) rfl (fun ls hl => ?_)
    refine lv_goto (tgt := 77) hx hb dX9_share_111 (by decide) ?_
    generalize (upd gf_69 12 1000000) = gf_70 at hP hD
    refine lv_iload hx hb dX9_share_77 (lv_at hl 0 rfl) ?_
    refine lv_iload hx hb dX9_share_79 (lv_at hl 1 rfl) ?_
    refine lv_icmp_gt (tgt := 114) hx hb dX9_share_81 (by decide) (fun h => absurd h (by decide)) (fun _ => ?_)
    refine lv_aload_n hx hb dX9_share_84 rfl (lv_at hl 3 rfl) ?_
    refine va_get (ci := 9) (v := .ref hf) (C := RX9) (T := TX9) (N := 11) hx hb htl inX9 hown hK hP 0 rfl rfl 8 (by decide) (htl _ fl_RX9_31) (fun _ h9 => h9) rfl dX9_share_85 ?_
    refine lv_iload hx hb dX9_share_88 (lv_at hl 2 rfl) ?_
    refine lv_bipush (v := 64) hx hb dX9_share_90 (by decide) ?_
    refine lv_imul hx hb dX9_share_92 ?_
    refine lv_topi (fun xv ex => ?_)
    obtain rfl : xv = 0 := ex.trans (by first | rfl | decide)
    refine lv_iload hx hb dX9_share_93 (lv_at hl 0 rfl) ?_
    refine lv_iadd hx hb dX9_share_95 ?_
    refine lv_topi (fun xv ex => ?_)
    obtain rfl : xv = 13 := ex.trans (by first | rfl | decide)
    refine lv_iload hx hb dX9_share_96 (lv_at hl 0 rfl) ?_
    refine lv_if_ne (tgt := 105) hx hb dX9_share_98 (by decide) (fun _ => ?_) (fun h => absurd h (by decide))
    refine lv_ldc hx hb hown (htl _ ct_RX9_68) dX9_share_105 ?_
    refine va_iast hx hb hK hP hD hS 4 0 rfl rfl (by unfold vp_in; decide) dX9_share_107 (fun H locs hP hD hS => ?_)
    have hP : va_P G vwCl [(h0, .inr (9, [f_h0_0, f_h0_1, f_h0_2, f_h0_3, f_h0_4, f_h0_5, .ref hd, f_h0_7, .ref hf, f_h0_9, f_h0_10])), (aW, .inr (10, [f_aW_0, .ref aC, f_aW_2, f_aW_3, f_aW_4, f_aW_5, f_aW_6])), (aC, .inr (1, [f_aC_0, f_aC_1, .int 0])), (hd, .inl (cs 0, 6, .inl g)), (hf, .inl (cs 0, 448, .inl (upd gf_70 13 1000000)))] H := hP
    have hD : va_D A [(h0, .inr (9, [f_h0_0, f_h0_1, f_h0_2, f_h0_3, f_h0_4, f_h0_5, .ref hd, f_h0_7, .ref hf, f_h0_9, f_h0_10])), (aW, .inr (10, [f_aW_0, .ref aC, f_aW_2, f_aW_3, f_aW_4, f_aW_5, f_aW_6])), (aC, .inr (1, [f_aC_0, f_aC_1, .int 0])), (hd, .inl (cs 0, 6, .inl g)), (hf, .inl (cs 0, 448, .inl (upd gf_70 13 1000000)))] := hD
    refine lv_iinc (v := 14) (lv' := [(8, .int 14), (7, .int 63), (6, .int 0), (0, .ref h0), (1, .ref aW), (2, .ref aA), (3, .long a), (5, .int (nI 6))]) hx hb dX9_share_108 hl (k := 0) rfl (by first | rfl | decide) (by decide) rfl (fun ls hl => ?_)
    refine lv_goto (tgt := 77) hx hb dX9_share_111 (by decide) ?_
    generalize (upd gf_70 13 1000000) = gf_71 at hP hD
    refine lv_iload hx hb dX9_share_77 (lv_at hl 0 rfl) ?_
    refine lv_iload hx hb dX9_share_79 (lv_at hl 1 rfl) ?_
    refine lv_icmp_gt (tgt := 114) hx hb dX9_share_81 (by decide) (fun h => absurd h (by decide)) (fun _ => ?_)
    refine lv_aload_n hx hb dX9_share_84 rfl (lv_at hl 3 rfl) ?_
    refine va_get (ci := 9) (v := .ref hf) (C := RX9) (T := TX9) (N := 11) hx hb htl inX9 hown hK hP 0 rfl rfl 8 (by decide) (htl _ fl_RX9_31) (fun _ h9 => h9) rfl dX9_share_85 ?_
    refine lv_iload hx hb dX9_share_88 (lv_at hl 2 rfl) ?_
    refine lv_bipush (v := 64) hx hb dX9_share_90 (by decide) ?_
    refine lv_imul hx hb dX9_share_92 ?_
    refine lv_topi (fun xv ex => ?_)
    obtain rfl : xv = 0 := ex.trans (by first | rfl | decide)
    refine lv_iload hx hb dX9_share_93 (lv_at hl 0 rfl) ?_
    refine lv_iadd hx hb dX9_share_95 ?_
    refine lv_topi (fun xv ex => ?_)
    obtain rfl : xv = 14 := ex.trans (by first | rfl | decide)
    refine lv_iload hx hb dX9_share_96 (lv_at hl 0 rfl) ?_
    refine lv_if_ne (tgt := 105) hx hb dX9_share_98 (by decide) (fun _ => ?_) (fun h => absurd h (by decide))
    refine lv_ldc hx hb hown (htl _ ct_RX9_68) dX9_share_105 ?_
    refine va_iast hx hb hK hP hD hS 4 0 rfl rfl (by unfold vp_in; decide) dX9_share_107 (fun H locs hP hD hS => ?_)
    have hP : va_P G vwCl [(h0, .inr (9, [f_h0_0, f_h0_1, f_h0_2, f_h0_3, f_h0_4, f_h0_5, .ref hd, f_h0_7, .ref hf, f_h0_9, f_h0_10])), (aW, .inr (10, [f_aW_0, .ref aC, f_aW_2, f_aW_3, f_aW_4, f_aW_5, f_aW_6])), (aC, .inr (1, [f_aC_0, f_aC_1, .int 0])), (hd, .inl (cs 0, 6, .inl g)), (hf, .inl (cs 0, 448, .inl (upd gf_71 14 1000000)))] H := hP
    have hD : va_D A [(h0, .inr (9, [f_h0_0, f_h0_1, f_h0_2, f_h0_3, f_h0_4, f_h0_5, .ref hd, f_h0_7, .ref hf, f_h0_9, f_h0_10])), (aW, .inr (10, [f_aW_0, .ref aC, f_aW_2, f_aW_3, f_aW_4, f_aW_5, f_aW_6])), (aC, .inr (1, [f_aC_0, f_aC_1, .int 0])), (hd, .inl (cs 0, 6, .inl g)), (hf, .inl (cs 0, 448, .inl (upd gf_71 14 1000000)))] := hD
    refine lv_iinc (v := 15) (lv' := [(8, .int 15), (7, .int 63), (6, .int 0), (0, .ref h0), (1, .ref aW), (2, .ref aA), (3, .long a), (5, .int (nI 6))]) hx hb dX9_share_108 hl (k := 0) rfl (by first | rfl | decide) (by decide) rfl (fun ls hl => ?_)
    refine lv_goto (tgt := 77) hx hb dX9_share_111 (by decide) ?_
    generalize (upd gf_71 14 1000000) = gf_72 at hP hD
    refine lv_iload hx hb dX9_share_77 (lv_at hl 0 rfl) ?_
    refine lv_iload hx hb dX9_share_79 (lv_at hl 1 rfl) ?_
    refine lv_icmp_gt (tgt := 114) hx hb dX9_share_81 (by decide) (fun h => absurd h (by decide)) (fun _ => ?_)
    refine lv_aload_n hx hb dX9_share_84 rfl (lv_at hl 3 rfl) ?_
    refine va_get (ci := 9) (v := .ref hf) (C := RX9) (T := TX9) (N := 11) hx hb htl inX9 hown hK hP 0 rfl rfl 8 (by decide) (htl _ fl_RX9_31) (fun _ h9 => h9) rfl dX9_share_85 ?_
    refine lv_iload hx hb dX9_share_88 (lv_at hl 2 rfl) ?_
    refine lv_bipush (v := 64) hx hb dX9_share_90 (by decide) ?_
    refine lv_imul hx hb dX9_share_92 ?_
    refine lv_topi (fun xv ex => ?_)
    obtain rfl : xv = 0 := ex.trans (by first | rfl | decide)
    refine lv_iload hx hb dX9_share_93 (lv_at hl 0 rfl) ?_
    refine lv_iadd hx hb dX9_share_95 ?_
    refine lv_topi (fun xv ex => ?_)
    obtain rfl : xv = 15 := ex.trans (by first | rfl | decide)
    refine lv_iload hx hb dX9_share_96 (lv_at hl 0 rfl) ?_
    refine lv_if_ne (tgt := 105) hx hb dX9_share_98 (by decide) (fun _ => ?_) (fun h => absurd h (by decide))
    refine lv_ldc hx hb hown (htl _ ct_RX9_68) dX9_share_105 ?_
    refine va_iast hx hb hK hP hD hS 4 0 rfl rfl (by unfold vp_in; decide) dX9_share_107 (fun H locs hP hD hS => ?_)
    have hP : va_P G vwCl [(h0, .inr (9, [f_h0_0, f_h0_1, f_h0_2, f_h0_3, f_h0_4, f_h0_5, .ref hd, f_h0_7, .ref hf, f_h0_9, f_h0_10])), (aW, .inr (10, [f_aW_0, .ref aC, f_aW_2, f_aW_3, f_aW_4, f_aW_5, f_aW_6])), (aC, .inr (1, [f_aC_0, f_aC_1, .int 0])), (hd, .inl (cs 0, 6, .inl g)), (hf, .inl (cs 0, 448, .inl (upd gf_72 15 1000000)))] H := hP
    have hD : va_D A [(h0, .inr (9, [f_h0_0, f_h0_1, f_h0_2, f_h0_3, f_h0_4, f_h0_5, .ref hd, f_h0_7, .ref hf, f_h0_9, f_h0_10])), (aW, .inr (10, [f_aW_0, .ref aC, f_aW_2, f_aW_3, f_aW_4, f_aW_5, f_aW_6])), (aC, .inr (1, [f_aC_0, f_aC_1, .int 0])), (hd, .inl (cs 0, 6, .inl g)), (hf, .inl (cs 0, 448, .inl (upd gf_72 15 1000000)))] := hD
    refine lv_iinc (v := 16) (lv' := [(8, .int 16), (7, .int 63), (6, .int 0), (0, .ref h0), (1, .ref aW), (2, .ref aA), (3, .long a), (5, .int (nI 6))]) hx hb dX9_share_108 hl (k := 0) rfl (by first | rfl | decide) (by decide) rfl (fun ls hl => ?_)
    refine lv_goto (tgt := 77) hx hb dX9_share_111 (by decide) ?_
    generalize (upd gf_72 15 1000000) = gf_73 at hP hD
    refine lv_iload hx hb dX9_share_77 (lv_at hl 0 rfl) ?_
    refine lv_iload hx hb dX9_share_79 (lv_at hl 1 rfl) ?_
    refine lv_icmp_gt (tgt := 114) hx hb dX9_share_81 (by decide) (fun h => absurd h (by decide)) (fun _ => ?_)
    refine lv_aload_n hx hb dX9_share_84 rfl (lv_at hl 3 rfl) ?_
    refine va_get (ci := 9) (v := .ref hf) (C := RX9) (T := TX9) (N := 11) hx hb htl inX9 hown hK hP 0 rfl rfl 8 (by decide) (htl _ fl_RX9_31) (fun _ h9 => h9) rfl dX9_share_85 ?_
    refine lv_iload hx hb dX9_share_88 (lv_at hl 2 rfl) ?_
    refine lv_bipush (v := 64) hx hb dX9_share_90 (by decide) ?_
    refine lv_imul hx hb dX9_share_92 ?_
    refine lv_topi (fun xv ex => ?_)
    obtain rfl : xv = 0 := ex.trans (by first | rfl | decide)
    refine lv_iload hx hb dX9_share_93 (lv_at hl 0 rfl) ?_
    refine lv_iadd hx hb dX9_share_95 ?_
    refine lv_topi (fun xv ex => ?_)
    obtain rfl : xv = 16 := ex.trans (by first | rfl | decide)
    refine lv_iload hx hb dX9_share_96 (lv_at hl 0 rfl) ?_
    refine lv_if_ne (tgt := 105) hx hb dX9_share_98 (by decide) (fun _ => ?_) (fun h => absurd h (by decide))
    refine lv_ldc hx hb hown (htl _ ct_RX9_68) dX9_share_105 ?_
    refine va_iast hx hb hK hP hD hS 4 0 rfl rfl (by unfold vp_in; decide) dX9_share_107 (fun H locs hP hD hS => ?_)
    have hP : va_P G vwCl [(h0, .inr (9, [f_h0_0, f_h0_1, f_h0_2, f_h0_3, f_h0_4, f_h0_5, .ref hd, f_h0_7, .ref hf, f_h0_9, f_h0_10])), (aW, .inr (10, [f_aW_0, .ref aC, f_aW_2, f_aW_3, f_aW_4, f_aW_5, f_aW_6])), (aC, .inr (1, [f_aC_0, f_aC_1, .int 0])), (hd, .inl (cs 0, 6, .inl g)), (hf, .inl (cs 0, 448, .inl (upd gf_73 16 1000000)))] H := hP
    have hD : va_D A [(h0, .inr (9, [f_h0_0, f_h0_1, f_h0_2, f_h0_3, f_h0_4, f_h0_5, .ref hd, f_h0_7, .ref hf, f_h0_9, f_h0_10])), (aW, .inr (10, [f_aW_0, .ref aC, f_aW_2, f_aW_3, f_aW_4, f_aW_5, f_aW_6])), (aC, .inr (1, [f_aC_0, f_aC_1, .int 0])), (hd, .inl (cs 0, 6, .inl g)), (hf, .inl (cs 0, 448, .inl (upd gf_73 16 1000000)))] := hD
    refine lv_iinc (v := 17) (lv' := [(8, .int 17), (7, .int 63), (6, .int 0), (0, .ref h0), (1, .ref aW), (2, .ref aA), (3, .long a), (5, .int (nI 6))]) hx hb dX9_share_108 hl (k := 0) rfl (by first | rfl | decide) (by decide) rfl (fun ls hl => ?_)
    refine lv_goto (tgt := 77) hx hb dX9_share_111 (by decide) ?_
    generalize (upd gf_73 16 1000000) = gf_74 at hP hD
    refine lv_iload hx hb dX9_share_77 (lv_at hl 0 rfl) ?_
    refine lv_iload hx hb dX9_share_79 (lv_at hl 1 rfl) ?_
    refine lv_icmp_gt (tgt := 114) hx hb dX9_share_81 (by decide) (fun h => absurd h (by decide)) (fun _ => ?_)
    refine lv_aload_n hx hb dX9_share_84 rfl (lv_at hl 3 rfl) ?_
    refine va_get (ci := 9) (v := .ref hf) (C := RX9) (T := TX9) (N := 11) hx hb htl inX9 hown hK hP 0 rfl rfl 8 (by decide) (htl _ fl_RX9_31) (fun _ h9 => h9) rfl dX9_share_85 ?_
    refine lv_iload hx hb dX9_share_88 (lv_at hl 2 rfl) ?_
    refine lv_bipush (v := 64) hx hb dX9_share_90 (by decide) ?_
    refine lv_imul hx hb dX9_share_92 ?_
    refine lv_topi (fun xv ex => ?_)
    obtain rfl : xv = 0 := ex.trans (by first | rfl | decide)
    refine lv_iload hx hb dX9_share_93 (lv_at hl 0 rfl) ?_
    refine lv_iadd hx hb dX9_share_95 ?_
    refine lv_topi (fun xv ex => ?_)
    obtain rfl : xv = 17 := ex.trans (by first | rfl | decide)
    refine lv_iload hx hb dX9_share_96 (lv_at hl 0 rfl) ?_
    refine lv_if_ne (tgt := 105) hx hb dX9_share_98 (by decide) (fun _ => ?_) (fun h => absurd h (by decide))
    refine lv_ldc hx hb hown (htl _ ct_RX9_68) dX9_share_105 ?_
    refine va_iast hx hb hK hP hD hS 4 0 rfl rfl (by unfold vp_in; decide) dX9_share_107 (fun H locs hP hD hS => ?_)
    have hP : va_P G vwCl [(h0, .inr (9, [f_h0_0, f_h0_1, f_h0_2, f_h0_3, f_h0_4, f_h0_5, .ref hd, f_h0_7, .ref hf, f_h0_9, f_h0_10])), (aW, .inr (10, [f_aW_0, .ref aC, f_aW_2, f_aW_3, f_aW_4, f_aW_5, f_aW_6])), (aC, .inr (1, [f_aC_0, f_aC_1, .int 0])), (hd, .inl (cs 0, 6, .inl g)), (hf, .inl (cs 0, 448, .inl (upd gf_74 17 1000000)))] H := hP
    have hD : va_D A [(h0, .inr (9, [f_h0_0, f_h0_1, f_h0_2, f_h0_3, f_h0_4, f_h0_5, .ref hd, f_h0_7, .ref hf, f_h0_9, f_h0_10])), (aW, .inr (10, [f_aW_0, .ref aC, f_aW_2, f_aW_3, f_aW_4, f_aW_5, f_aW_6])), (aC, .inr (1, [f_aC_0, f_aC_1, .int 0])), (hd, .inl (cs 0, 6, .inl g)), (hf, .inl (cs 0, 448, .inl (upd gf_74 17 1000000)))] := hD
    refine lv_iinc (v := 18) (lv' := [(8, .int 18), (7, .int 63), (6, .int 0), (0, .ref h0), (1, .ref aW), (2, .ref aA), (3, .long a), (5, .int (nI 6))]) hx hb dX9_share_108 hl (k := 0) rfl (by first | rfl | decide) (by decide) rfl (fun ls hl => ?_)
    refine lv_goto (tgt := 77) hx hb dX9_share_111 (by decide) ?_
    generalize (upd gf_74 17 1000000) = gf_75 at hP hD
    refine lv_iload hx hb dX9_share_77 (lv_at hl 0 rfl) ?_
    refine lv_iload hx hb dX9_share_79 (lv_at hl 1 rfl) ?_
    refine lv_icmp_gt (tgt := 114) hx hb dX9_share_81 (by decide) (fun h => absurd h (by decide)) (fun _ => ?_)
    refine lv_aload_n hx hb dX9_share_84 rfl (lv_at hl 3 rfl) ?_
    refine va_get (ci := 9) (v := .ref hf) (C := RX9) (T := TX9) (N := 11) hx hb htl inX9 hown hK hP 0 rfl rfl 8 (by decide) (htl _ fl_RX9_31) (fun _ h9 => h9) rfl dX9_share_85 ?_
    refine lv_iload hx hb dX9_share_88 (lv_at hl 2 rfl) ?_
    refine lv_bipush (v := 64) hx hb dX9_share_90 (by decide) ?_
    refine lv_imul hx hb dX9_share_92 ?_
    refine lv_topi (fun xv ex => ?_)
    obtain rfl : xv = 0 := ex.trans (by first | rfl | decide)
    refine lv_iload hx hb dX9_share_93 (lv_at hl 0 rfl) ?_
    refine lv_iadd hx hb dX9_share_95 ?_
    refine lv_topi (fun xv ex => ?_)
    obtain rfl : xv = 18 := ex.trans (by first | rfl | decide)
    refine lv_iload hx hb dX9_share_96 (lv_at hl 0 rfl) ?_
    refine lv_if_ne (tgt := 105) hx hb dX9_share_98 (by decide) (fun _ => ?_) (fun h => absurd h (by decide))
    refine lv_ldc hx hb hown (htl _ ct_RX9_68) dX9_share_105 ?_
    refine va_iast hx hb hK hP hD hS 4 0 rfl rfl (by unfold vp_in; decide) dX9_share_107 (fun H locs hP hD hS => ?_)
    have hP : va_P G vwCl [(h0, .inr (9, [f_h0_0, f_h0_1, f_h0_2, f_h0_3, f_h0_4, f_h0_5, .ref hd, f_h0_7, .ref hf, f_h0_9, f_h0_10])), (aW, .inr (10, [f_aW_0, .ref aC, f_aW_2, f_aW_3, f_aW_4, f_aW_5, f_aW_6])), (aC, .inr (1, [f_aC_0, f_aC_1, .int 0])), (hd, .inl (cs 0, 6, .inl g)), (hf, .inl (cs 0, 448, .inl (upd gf_75 18 1000000)))] H := hP
    have hD : va_D A [(h0, .inr (9, [f_h0_0, f_h0_1, f_h0_2, f_h0_3, f_h0_4, f_h0_5, .ref hd, f_h0_7, .ref hf, f_h0_9, f_h0_10])), (aW, .inr (10, [f_aW_0, .ref aC, f_aW_2, f_aW_3, f_aW_4, f_aW_5, f_aW_6])), (aC, .inr (1, [f_aC_0, f_aC_1, .int 0])), (hd, .inl (cs 0, 6, .inl g)), (hf, .inl (cs 0, 448, .inl (upd gf_75 18 1000000)))] := hD
    refine lv_iinc (v := 19) (lv' := [(8, .int 19), (7, .int 63), (6, .int 0), (0, .ref h0), (1, .ref aW), (2, .ref aA), (3, .long a), (5, .int (nI 6))]) hx hb dX9_share_108 hl (k := 0) rfl (by first | rfl | decide) (by decide) rfl (fun ls hl => ?_)
    refine lv_goto (tgt := 77) hx hb dX9_share_111 (by decide) ?_
    generalize (upd gf_75 18 1000000) = gf_76 at hP hD
    refine lv_iload hx hb dX9_share_77 (lv_at hl 0 rfl) ?_
    refine lv_iload hx hb dX9_share_79 (lv_at hl 1 rfl) ?_
    refine lv_icmp_gt (tgt := 114) hx hb dX9_share_81 (by decide) (fun h => absurd h (by decide)) (fun _ => ?_)
    refine lv_aload_n hx hb dX9_share_84 rfl (lv_at hl 3 rfl) ?_
    refine va_get (ci := 9) (v := .ref hf) (C := RX9) (T := TX9) (N := 11) hx hb htl inX9 hown hK hP 0 rfl rfl 8 (by decide) (htl _ fl_RX9_31) (fun _ h9 => h9) rfl dX9_share_85 ?_
    refine lv_iload hx hb dX9_share_88 (lv_at hl 2 rfl) ?_
    refine lv_bipush (v := 64) hx hb dX9_share_90 (by decide) ?_
    refine lv_imul hx hb dX9_share_92 ?_
    refine lv_topi (fun xv ex => ?_)
    obtain rfl : xv = 0 := ex.trans (by first | rfl | decide)
    refine lv_iload hx hb dX9_share_93 (lv_at hl 0 rfl) ?_
    refine lv_iadd hx hb dX9_share_95 ?_
    refine lv_topi (fun xv ex => ?_)
    obtain rfl : xv = 19 := ex.trans (by first | rfl | decide)
    refine lv_iload hx hb dX9_share_96 (lv_at hl 0 rfl) ?_
    refine lv_if_ne (tgt := 105) hx hb dX9_share_98 (by decide) (fun _ => ?_) (fun h => absurd h (by decide))
    refine lv_ldc hx hb hown (htl _ ct_RX9_68) dX9_share_105 ?_
    refine va_iast hx hb hK hP hD hS 4 0 rfl rfl (by unfold vp_in; decide) dX9_share_107 (fun H locs hP hD hS => ?_)
    have hP : va_P G vwCl [(h0, .inr (9, [f_h0_0, f_h0_1, f_h0_2, f_h0_3, f_h0_4, f_h0_5, .ref hd, f_h0_7, .ref hf, f_h0_9, f_h0_10])), (aW, .inr (10, [f_aW_0, .ref aC, f_aW_2, f_aW_3, f_aW_4, f_aW_5, f_aW_6])), (aC, .inr (1, [f_aC_0, f_aC_1, .int 0])), (hd, .inl (cs 0, 6, .inl g)), (hf, .inl (cs 0, 448, .inl (upd gf_76 19 1000000)))] H := hP
    have hD : va_D A [(h0, .inr (9, [f_h0_0, f_h0_1, f_h0_2, f_h0_3, f_h0_4, f_h0_5, .ref hd, f_h0_7, .ref hf, f_h0_9, f_h0_10])), (aW, .inr (10, [f_aW_0, .ref aC, f_aW_2, f_aW_3, f_aW_4, f_aW_5, f_aW_6])), (aC, .inr (1, [f_aC_0, f_aC_1, .int 0])), (hd, .inl (cs 0, 6, .inl g)), (hf, .inl (cs 0, 448, .inl (upd gf_76 19 1000000)))] := hD
    refine lv_iinc (v := 20) (lv' := [(8, .int 20), (7, .int 63), (6, .int 0), (0, .ref h0), (1, .ref aW), (2, .ref aA), (3, .long a), (5, .int (nI 6))]) hx hb dX9_share_108 hl (k := 0) rfl (by first | rfl | decide) (by decide) rfl (fun ls hl => ?_)
    refine lv_goto (tgt := 77) hx hb dX9_share_111 (by decide) ?_
    generalize (upd gf_76 19 1000000) = gf_77 at hP hD
    refine lv_iload hx hb dX9_share_77 (lv_at hl 0 rfl) ?_
    refine lv_iload hx hb dX9_share_79 (lv_at hl 1 rfl) ?_
    refine lv_icmp_gt (tgt := 114) hx hb dX9_share_81 (by decide) (fun h => absurd h (by decide)) (fun _ => ?_)
    refine lv_aload_n hx hb dX9_share_84 rfl (lv_at hl 3 rfl) ?_
    refine va_get (ci := 9) (v := .ref hf) (C := RX9) (T := TX9) (N := 11) hx hb htl inX9 hown hK hP 0 rfl rfl 8 (by decide) (htl _ fl_RX9_31) (fun _ h9 => h9) rfl dX9_share_85 ?_
    refine lv_iload hx hb dX9_share_88 (lv_at hl 2 rfl) ?_
    refine lv_bipush (v := 64) hx hb dX9_share_90 (by decide) ?_
    refine lv_imul hx hb dX9_share_92 ?_
    refine lv_topi (fun xv ex => ?_)
    obtain rfl : xv = 0 := ex.trans (by first | rfl | decide)
    refine lv_iload hx hb dX9_share_93 (lv_at hl 0 rfl) ?_
    refine lv_iadd hx hb dX9_share_95 ?_
    refine lv_topi (fun xv ex => ?_)
    obtain rfl : xv = 20 := ex.trans (by first | rfl | decide)
    refine lv_iload hx hb dX9_share_96 (lv_at hl 0 rfl) ?_
    refine lv_if_ne (tgt := 105) hx hb dX9_share_98 (by decide) (fun _ => ?_) (fun h => absurd h (by decide))
    refine lv_ldc hx hb hown (htl _ ct_RX9_68) dX9_share_105 ?_
    refine va_iast hx hb hK hP hD hS 4 0 rfl rfl (by unfold vp_in; decide) dX9_share_107 (fun H locs hP hD hS => ?_)
    have hP : va_P G vwCl [(h0, .inr (9, [f_h0_0, f_h0_1, f_h0_2, f_h0_3, f_h0_4, f_h0_5, .ref hd, f_h0_7, .ref hf, f_h0_9, f_h0_10])), (aW, .inr (10, [f_aW_0, .ref aC, f_aW_2, f_aW_3, f_aW_4, f_aW_5, f_aW_6])), (aC, .inr (1, [f_aC_0, f_aC_1, .int 0])), (hd, .inl (cs 0, 6, .inl g)), (hf, .inl (cs 0, 448, .inl (upd gf_77 20 1000000)))] H := hP
    have hD : va_D A [(h0, .inr (9, [f_h0_0, f_h0_1, f_h0_2, f_h0_3, f_h0_4, f_h0_5, .ref hd, f_h0_7, .ref hf, f_h0_9, f_h0_10])), (aW, .inr (10, [f_aW_0, .ref aC, f_aW_2, f_aW_3, f_aW_4, f_aW_5, f_aW_6])), (aC, .inr (1, [f_aC_0, f_aC_1, .int 0])), (hd, .inl (cs 0, 6, .inl g)), (hf, .inl (cs 0, 448, .inl (upd gf_77 20 1000000)))] := hD
    refine lv_iinc (v := 21) (lv' := [(8, .int 21), (7, .int 63), (6, .int 0), (0, .ref h0), (1, .ref aW), (2, .ref aA), (3, .long a), (5, .int (nI 6))]) hx hb dX9_share_108 hl (k := 0) rfl (by first | rfl | decide) (by decide) rfl (fun ls hl => ?_)
    refine lv_goto (tgt := 77) hx hb dX9_share_111 (by decide) ?_
    generalize (upd gf_77 20 1000000) = gf_78 at hP hD
    refine lv_iload hx hb dX9_share_77 (lv_at hl 0 rfl) ?_
    refine lv_iload hx hb dX9_share_79 (lv_at hl 1 rfl) ?_
    refine lv_icmp_gt (tgt := 114) hx hb dX9_share_81 (by decide) (fun h => absurd h (by decide)) (fun _ => ?_)
    refine lv_aload_n hx hb dX9_share_84 rfl (lv_at hl 3 rfl) ?_
    refine va_get (ci := 9) (v := .ref hf) (C := RX9) (T := TX9) (N := 11) hx hb htl inX9 hown hK hP 0 rfl rfl 8 (by decide) (htl _ fl_RX9_31) (fun _ h9 => h9) rfl dX9_share_85 ?_
    refine lv_iload hx hb dX9_share_88 (lv_at hl 2 rfl) ?_
    refine lv_bipush (v := 64) hx hb dX9_share_90 (by decide) ?_
    refine lv_imul hx hb dX9_share_92 ?_
    refine lv_topi (fun xv ex => ?_)
    obtain rfl : xv = 0 := ex.trans (by first | rfl | decide)
    refine lv_iload hx hb dX9_share_93 (lv_at hl 0 rfl) ?_
    refine lv_iadd hx hb dX9_share_95 ?_
    refine lv_topi (fun xv ex => ?_)
    obtain rfl : xv = 21 := ex.trans (by first | rfl | decide)
    refine lv_iload hx hb dX9_share_96 (lv_at hl 0 rfl) ?_
    refine lv_if_ne (tgt := 105) hx hb dX9_share_98 (by decide) (fun _ => ?_) (fun h => absurd h (by decide))
    refine lv_ldc hx hb hown (htl _ ct_RX9_68) dX9_share_105 ?_
    refine va_iast hx hb hK hP hD hS 4 0 rfl rfl (by unfold vp_in; decide) dX9_share_107 (fun H locs hP hD hS => ?_)
    have hP : va_P G vwCl [(h0, .inr (9, [f_h0_0, f_h0_1, f_h0_2, f_h0_3, f_h0_4, f_h0_5, .ref hd, f_h0_7, .ref hf, f_h0_9, f_h0_10])), (aW, .inr (10, [f_aW_0, .ref aC, f_aW_2, f_aW_3, f_aW_4, f_aW_5, f_aW_6])), (aC, .inr (1, [f_aC_0, f_aC_1, .int 0])), (hd, .inl (cs 0, 6, .inl g)), (hf, .inl (cs 0, 448, .inl (upd gf_78 21 1000000)))] H := hP
    have hD : va_D A [(h0, .inr (9, [f_h0_0, f_h0_1, f_h0_2, f_h0_3, f_h0_4, f_h0_5, .ref hd, f_h0_7, .ref hf, f_h0_9, f_h0_10])), (aW, .inr (10, [f_aW_0, .ref aC, f_aW_2, f_aW_3, f_aW_4, f_aW_5, f_aW_6])), (aC, .inr (1, [f_aC_0, f_aC_1, .int 0])), (hd, .inl (cs 0, 6, .inl g)), (hf, .inl (cs 0, 448, .inl (upd gf_78 21 1000000)))] := hD
    refine lv_iinc (v := 22) (lv' := [(8, .int 22), (7, .int 63), (6, .int 0), (0, .ref h0), (1, .ref aW), (2, .ref aA), (3, .long a), (5, .int (nI 6))]) hx hb dX9_share_108 hl (k := 0) rfl (by first | rfl | decide) (by decide) rfl (fun ls hl => ?_)
    refine lv_goto (tgt := 77) hx hb dX9_share_111 (by decide) ?_
    generalize (upd gf_78 21 1000000) = gf_79 at hP hD
    refine lv_iload hx hb dX9_share_77 (lv_at hl 0 rfl) ?_
    refine lv_iload hx hb dX9_share_79 (lv_at hl 1 rfl) ?_
    refine lv_icmp_gt (tgt := 114) hx hb dX9_share_81 (by decide) (fun h => absurd h (by decide)) (fun _ => ?_)
    refine lv_aload_n hx hb dX9_share_84 rfl (lv_at hl 3 rfl) ?_
    refine va_get (ci := 9) (v := .ref hf) (C := RX9) (T := TX9) (N := 11) hx hb htl inX9 hown hK hP 0 rfl rfl 8 (by decide) (htl _ fl_RX9_31) (fun _ h9 => h9) rfl dX9_share_85 ?_
    refine lv_iload hx hb dX9_share_88 (lv_at hl 2 rfl) ?_
    refine lv_bipush (v := 64) hx hb dX9_share_90 (by decide) ?_
    refine lv_imul hx hb dX9_share_92 ?_
    refine lv_topi (fun xv ex => ?_)
    obtain rfl : xv = 0 := ex.trans (by first | rfl | decide)
    refine lv_iload hx hb dX9_share_93 (lv_at hl 0 rfl) ?_
    refine lv_iadd hx hb dX9_share_95 ?_
    refine lv_topi (fun xv ex => ?_)
    obtain rfl : xv = 22 := ex.trans (by first | rfl | decide)
    refine lv_iload hx hb dX9_share_96 (lv_at hl 0 rfl) ?_
    refine lv_if_ne (tgt := 105) hx hb dX9_share_98 (by decide) (fun _ => ?_) (fun h => absurd h (by decide))
    refine lv_ldc hx hb hown (htl _ ct_RX9_68) dX9_share_105 ?_
    refine va_iast hx hb hK hP hD hS 4 0 rfl rfl (by unfold vp_in; decide) dX9_share_107 (fun H locs hP hD hS => ?_)
    have hP : va_P G vwCl [(h0, .inr (9, [f_h0_0, f_h0_1, f_h0_2, f_h0_3, f_h0_4, f_h0_5, .ref hd, f_h0_7, .ref hf, f_h0_9, f_h0_10])), (aW, .inr (10, [f_aW_0, .ref aC, f_aW_2, f_aW_3, f_aW_4, f_aW_5, f_aW_6])), (aC, .inr (1, [f_aC_0, f_aC_1, .int 0])), (hd, .inl (cs 0, 6, .inl g)), (hf, .inl (cs 0, 448, .inl (upd gf_79 22 1000000)))] H := hP
    have hD : va_D A [(h0, .inr (9, [f_h0_0, f_h0_1, f_h0_2, f_h0_3, f_h0_4, f_h0_5, .ref hd, f_h0_7, .ref hf, f_h0_9, f_h0_10])), (aW, .inr (10, [f_aW_0, .ref aC, f_aW_2, f_aW_3, f_aW_4, f_aW_5, f_aW_6])), (aC, .inr (1, [f_aC_0, f_aC_1, .int 0])), (hd, .inl (cs 0, 6, .inl g)), (hf, .inl (cs 0, 448, .inl (upd gf_79 22 1000000)))] := hD
    refine lv_iinc (v := 23) (lv' := [(8, .int 23), (7, .int 63), (6, .int 0), (0, .ref h0), (1, .ref aW), (2, .ref aA), (3, .long a), (5, .int (nI 6))]) hx hb dX9_share_108 hl (k := 0) rfl (by first | rfl | decide) (by decide) rfl (fun ls hl => ?_)
    refine lv_goto (tgt := 77) hx hb dX9_share_111 (by decide) ?_
    generalize (upd gf_79 22 1000000) = gf_80 at hP hD
    refine lv_iload hx hb dX9_share_77 (lv_at hl 0 rfl) ?_
    refine lv_iload hx hb dX9_share_79 (lv_at hl 1 rfl) ?_
    refine lv_icmp_gt (tgt := 114) hx hb dX9_share_81 (by decide) (fun h => absurd h (by decide)) (fun _ => ?_)
    refine lv_aload_n hx hb dX9_share_84 rfl (lv_at hl 3 rfl) ?_
    refine va_get (ci := 9) (v := .ref hf) (C := RX9) (T := TX9) (N := 11) hx hb htl inX9 hown hK hP 0 rfl rfl 8 (by decide) (htl _ fl_RX9_31) (fun _ h9 => h9) rfl dX9_share_85 ?_
    refine lv_iload hx hb dX9_share_88 (lv_at hl 2 rfl) ?_
    refine lv_bipush (v := 64) hx hb dX9_share_90 (by decide) ?_
    refine lv_imul hx hb dX9_share_92 ?_
    refine lv_topi (fun xv ex => ?_)
    obtain rfl : xv = 0 := ex.trans (by first | rfl | decide)
    refine lv_iload hx hb dX9_share_93 (lv_at hl 0 rfl) ?_
    refine lv_iadd hx hb dX9_share_95 ?_
    refine lv_topi (fun xv ex => ?_)
    obtain rfl : xv = 23 := ex.trans (by first | rfl | decide)
    refine lv_iload hx hb dX9_share_96 (lv_at hl 0 rfl) ?_
    refine lv_if_ne (tgt := 105) hx hb dX9_share_98 (by decide) (fun _ => ?_) (fun h => absurd h (by decide))
    refine lv_ldc hx hb hown (htl _ ct_RX9_68) dX9_share_105 ?_
    refine va_iast hx hb hK hP hD hS 4 0 rfl rfl (by unfold vp_in; decide) dX9_share_107 (fun H locs hP hD hS => ?_)
    have hP : va_P G vwCl [(h0, .inr (9, [f_h0_0, f_h0_1, f_h0_2, f_h0_3, f_h0_4, f_h0_5, .ref hd, f_h0_7, .ref hf, f_h0_9, f_h0_10])), (aW, .inr (10, [f_aW_0, .ref aC, f_aW_2, f_aW_3, f_aW_4, f_aW_5, f_aW_6])), (aC, .inr (1, [f_aC_0, f_aC_1, .int 0])), (hd, .inl (cs 0, 6, .inl g)), (hf, .inl (cs 0, 448, .inl (upd gf_80 23 1000000)))] H := hP
    have hD : va_D A [(h0, .inr (9, [f_h0_0, f_h0_1, f_h0_2, f_h0_3, f_h0_4, f_h0_5, .ref hd, f_h0_7, .ref hf, f_h0_9, f_h0_10])), (aW, .inr (10, [f_aW_0, .ref aC, f_aW_2, f_aW_3, f_aW_4, f_aW_5, f_aW_6])), (aC, .inr (1, [f_aC_0, f_aC_1, .int 0])), (hd, .inl (cs 0, 6, .inl g)), (hf, .inl (cs 0, 448, .inl (upd gf_80 23 1000000)))] := hD
    refine lv_iinc (v := 24) (lv' := [(8, .int 24), (7, .int 63), (6, .int 0), (0, .ref h0), (1, .ref aW), (2, .ref aA), (3, .long a), (5, .int (nI 6))]) hx hb dX9_share_108 hl (k := 0) rfl (by first | rfl | decide) (by decide) rfl (fun ls hl => ?_)
    refine lv_goto (tgt := 77) hx hb dX9_share_111 (by decide) ?_
    generalize (upd gf_80 23 1000000) = gf_81 at hP hD
    refine lv_iload hx hb dX9_share_77 (lv_at hl 0 rfl) ?_
    refine lv_iload hx hb dX9_share_79 (lv_at hl 1 rfl) ?_
    refine lv_icmp_gt (tgt := 114) hx hb dX9_share_81 (by decide) (fun h => absurd h (by decide)) (fun _ => ?_)
    refine lv_aload_n hx hb dX9_share_84 rfl (lv_at hl 3 rfl) ?_
    refine va_get (ci := 9) (v := .ref hf) (C := RX9) (T := TX9) (N := 11) hx hb htl inX9 hown hK hP 0 rfl rfl 8 (by decide) (htl _ fl_RX9_31) (fun _ h9 => h9) rfl dX9_share_85 ?_
    refine lv_iload hx hb dX9_share_88 (lv_at hl 2 rfl) ?_
    refine lv_bipush (v := 64) hx hb dX9_share_90 (by decide) ?_
    refine lv_imul hx hb dX9_share_92 ?_
    refine lv_topi (fun xv ex => ?_)
    obtain rfl : xv = 0 := ex.trans (by first | rfl | decide)
    refine lv_iload hx hb dX9_share_93 (lv_at hl 0 rfl) ?_
    refine lv_iadd hx hb dX9_share_95 ?_
    refine lv_topi (fun xv ex => ?_)
    obtain rfl : xv = 24 := ex.trans (by first | rfl | decide)
    refine lv_iload hx hb dX9_share_96 (lv_at hl 0 rfl) ?_
    refine lv_if_ne (tgt := 105) hx hb dX9_share_98 (by decide) (fun _ => ?_) (fun h => absurd h (by decide))
    refine lv_ldc hx hb hown (htl _ ct_RX9_68) dX9_share_105 ?_
    refine va_iast hx hb hK hP hD hS 4 0 rfl rfl (by unfold vp_in; decide) dX9_share_107 (fun H locs hP hD hS => ?_)
    have hP : va_P G vwCl [(h0, .inr (9, [f_h0_0, f_h0_1, f_h0_2, f_h0_3, f_h0_4, f_h0_5, .ref hd, f_h0_7, .ref hf, f_h0_9, f_h0_10])), (aW, .inr (10, [f_aW_0, .ref aC, f_aW_2, f_aW_3, f_aW_4, f_aW_5, f_aW_6])), (aC, .inr (1, [f_aC_0, f_aC_1, .int 0])), (hd, .inl (cs 0, 6, .inl g)), (hf, .inl (cs 0, 448, .inl (upd gf_81 24 1000000)))] H := hP
    have hD : va_D A [(h0, .inr (9, [f_h0_0, f_h0_1, f_h0_2, f_h0_3, f_h0_4, f_h0_5, .ref hd, f_h0_7, .ref hf, f_h0_9, f_h0_10])), (aW, .inr (10, [f_aW_0, .ref aC, f_aW_2, f_aW_3, f_aW_4, f_aW_5, f_aW_6])), (aC, .inr (1, [f_aC_0, f_aC_1, .int 0])), (hd, .inl (cs 0, 6, .inl g)), (hf, .inl (cs 0, 448, .inl (upd gf_81 24 1000000)))] := hD
    refine lv_iinc (v := 25) (lv' := [(8, .int 25), (7, .int 63), (6, .int 0), (0, .ref h0), (1, .ref aW), (2, .ref aA), (3, .long a), (5, .int (nI 6))]) hx hb dX9_share_108 hl (k := 0) rfl (by first | rfl | decide) (by decide) rfl (fun ls hl => ?_)
    refine lv_goto (tgt := 77) hx hb dX9_share_111 (by decide) ?_
    generalize (upd gf_81 24 1000000) = gf_82 at hP hD
    refine lv_iload hx hb dX9_share_77 (lv_at hl 0 rfl) ?_
    refine lv_iload hx hb dX9_share_79 (lv_at hl 1 rfl) ?_
    refine lv_icmp_gt (tgt := 114) hx hb dX9_share_81 (by decide) (fun h => absurd h (by decide)) (fun _ => ?_)
    refine lv_aload_n hx hb dX9_share_84 rfl (lv_at hl 3 rfl) ?_
    refine va_get (ci := 9) (v := .ref hf) (C := RX9) (T := TX9) (N := 11) hx hb htl inX9 hown hK hP 0 rfl rfl 8 (by decide) (htl _ fl_RX9_31) (fun _ h9 => h9) rfl dX9_share_85 ?_
    refine lv_iload hx hb dX9_share_88 (lv_at hl 2 rfl) ?_
    refine lv_bipush (v := 64) hx hb dX9_share_90 (by decide) ?_
    refine lv_imul hx hb dX9_share_92 ?_
    refine lv_topi (fun xv ex => ?_)
    obtain rfl : xv = 0 := ex.trans (by first | rfl | decide)
    refine lv_iload hx hb dX9_share_93 (lv_at hl 0 rfl) ?_
    refine lv_iadd hx hb dX9_share_95 ?_
    refine lv_topi (fun xv ex => ?_)
    obtain rfl : xv = 25 := ex.trans (by first | rfl | decide)
    refine lv_iload hx hb dX9_share_96 (lv_at hl 0 rfl) ?_
    refine lv_if_ne (tgt := 105) hx hb dX9_share_98 (by decide) (fun _ => ?_) (fun h => absurd h (by decide))
    refine lv_ldc hx hb hown (htl _ ct_RX9_68) dX9_share_105 ?_
    refine va_iast hx hb hK hP hD hS 4 0 rfl rfl (by unfold vp_in; decide) dX9_share_107 (fun H locs hP hD hS => ?_)
    have hP : va_P G vwCl [(h0, .inr (9, [f_h0_0, f_h0_1, f_h0_2, f_h0_3, f_h0_4, f_h0_5, .ref hd, f_h0_7, .ref hf, f_h0_9, f_h0_10])), (aW, .inr (10, [f_aW_0, .ref aC, f_aW_2, f_aW_3, f_aW_4, f_aW_5, f_aW_6])), (aC, .inr (1, [f_aC_0, f_aC_1, .int 0])), (hd, .inl (cs 0, 6, .inl g)), (hf, .inl (cs 0, 448, .inl (upd gf_82 25 1000000)))] H := hP
    have hD : va_D A [(h0, .inr (9, [f_h0_0, f_h0_1, f_h0_2, f_h0_3, f_h0_4, f_h0_5, .ref hd, f_h0_7, .ref hf, f_h0_9, f_h0_10])), (aW, .inr (10, [f_aW_0, .ref aC, f_aW_2, f_aW_3, f_aW_4, f_aW_5, f_aW_6])), (aC, .inr (1, [f_aC_0, f_aC_1, .int 0])), (hd, .inl (cs 0, 6, .inl g)), (hf, .inl (cs 0, 448, .inl (upd gf_82 25 1000000)))] := hD
    refine lv_iinc (v := 26) (lv' := [(8, .int 26), (7, .int 63), (6, .int 0), (0, .ref h0), (1, .ref aW), (2, .ref aA), (3, .long a), (5, .int (nI 6))]) hx hb dX9_share_108 hl (k := 0) rfl (by first | rfl | decide) (by decide) rfl (fun ls hl => ?_)
    refine lv_goto (tgt := 77) hx hb dX9_share_111 (by decide) ?_
    generalize (upd gf_82 25 1000000) = gf_83 at hP hD
    refine lv_iload hx hb dX9_share_77 (lv_at hl 0 rfl) ?_
    refine lv_iload hx hb dX9_share_79 (lv_at hl 1 rfl) ?_
    refine lv_icmp_gt (tgt := 114) hx hb dX9_share_81 (by decide) (fun h => absurd h (by decide)) (fun _ => ?_)
    refine lv_aload_n hx hb dX9_share_84 rfl (lv_at hl 3 rfl) ?_
    refine va_get (ci := 9) (v := .ref hf) (C := RX9) (T := TX9) (N := 11) hx hb htl inX9 hown hK hP 0 rfl rfl 8 (by decide) (htl _ fl_RX9_31) (fun _ h9 => h9) rfl dX9_share_85 ?_
    refine lv_iload hx hb dX9_share_88 (lv_at hl 2 rfl) ?_
    refine lv_bipush (v := 64) hx hb dX9_share_90 (by decide) ?_
    refine lv_imul hx hb dX9_share_92 ?_
    refine lv_topi (fun xv ex => ?_)
    obtain rfl : xv = 0 := ex.trans (by first | rfl | decide)
    refine lv_iload hx hb dX9_share_93 (lv_at hl 0 rfl) ?_
    refine lv_iadd hx hb dX9_share_95 ?_
    refine lv_topi (fun xv ex => ?_)
    obtain rfl : xv = 26 := ex.trans (by first | rfl | decide)
    refine lv_iload hx hb dX9_share_96 (lv_at hl 0 rfl) ?_
    refine lv_if_ne (tgt := 105) hx hb dX9_share_98 (by decide) (fun _ => ?_) (fun h => absurd h (by decide))
    refine lv_ldc hx hb hown (htl _ ct_RX9_68) dX9_share_105 ?_
    refine va_iast hx hb hK hP hD hS 4 0 rfl rfl (by unfold vp_in; decide) dX9_share_107 (fun H locs hP hD hS => ?_)
    have hP : va_P G vwCl [(h0, .inr (9, [f_h0_0, f_h0_1, f_h0_2, f_h0_3, f_h0_4, f_h0_5, .ref hd, f_h0_7, .ref hf, f_h0_9, f_h0_10])), (aW, .inr (10, [f_aW_0, .ref aC, f_aW_2, f_aW_3, f_aW_4, f_aW_5, f_aW_6])), (aC, .inr (1, [f_aC_0, f_aC_1, .int 0])), (hd, .inl (cs 0, 6, .inl g)), (hf, .inl (cs 0, 448, .inl (upd gf_83 26 1000000)))] H := hP
    have hD : va_D A [(h0, .inr (9, [f_h0_0, f_h0_1, f_h0_2, f_h0_3, f_h0_4, f_h0_5, .ref hd, f_h0_7, .ref hf, f_h0_9, f_h0_10])), (aW, .inr (10, [f_aW_0, .ref aC, f_aW_2, f_aW_3, f_aW_4, f_aW_5, f_aW_6])), (aC, .inr (1, [f_aC_0, f_aC_1, .int 0])), (hd, .inl (cs 0, 6, .inl g)), (hf, .inl (cs 0, 448, .inl (upd gf_83 26 1000000)))] := hD
    refine lv_iinc (v := 27) (lv' := [(8, .int 27), (7, .int 63), (6, .int 0), (0, .ref h0), (1, .ref aW), (2, .ref aA), (3, .long a), (5, .int (nI 6))]) hx hb dX9_share_108 hl (k := 0) rfl (by first | rfl | decide) (by decide) rfl (fun ls hl => ?_)
    refine lv_goto (tgt := 77) hx hb dX9_share_111 (by decide) ?_
    generalize (upd gf_83 26 1000000) = gf_84 at hP hD
    refine lv_iload hx hb dX9_share_77 (lv_at hl 0 rfl) ?_
    refine lv_iload hx hb dX9_share_79 (lv_at hl 1 rfl) ?_
    refine lv_icmp_gt (tgt := 114) hx hb dX9_share_81 (by decide) (fun h => absurd h (by decide)) (fun _ => ?_)
    refine lv_aload_n hx hb dX9_share_84 rfl (lv_at hl 3 rfl) ?_
    refine va_get (ci := 9) (v := .ref hf) (C := RX9) (T := TX9) (N := 11) hx hb htl inX9 hown hK hP 0 rfl rfl 8 (by decide) (htl _ fl_RX9_31) (fun _ h9 => h9) rfl dX9_share_85 ?_
    refine lv_iload hx hb dX9_share_88 (lv_at hl 2 rfl) ?_
    refine lv_bipush (v := 64) hx hb dX9_share_90 (by decide) ?_
    refine lv_imul hx hb dX9_share_92 ?_
    refine lv_topi (fun xv ex => ?_)
    obtain rfl : xv = 0 := ex.trans (by first | rfl | decide)
    refine lv_iload hx hb dX9_share_93 (lv_at hl 0 rfl) ?_
    refine lv_iadd hx hb dX9_share_95 ?_
    refine lv_topi (fun xv ex => ?_)
    obtain rfl : xv = 27 := ex.trans (by first | rfl | decide)
    refine lv_iload hx hb dX9_share_96 (lv_at hl 0 rfl) ?_
    refine lv_if_ne (tgt := 105) hx hb dX9_share_98 (by decide) (fun _ => ?_) (fun h => absurd h (by decide))
    refine lv_ldc hx hb hown (htl _ ct_RX9_68) dX9_share_105 ?_
    refine va_iast hx hb hK hP hD hS 4 0 rfl rfl (by unfold vp_in; decide) dX9_share_107 (fun H locs hP hD hS => ?_)
    have hP : va_P G vwCl [(h0, .inr (9, [f_h0_0, f_h0_1, f_h0_2, f_h0_3, f_h0_4, f_h0_5, .ref hd, f_h0_7, .ref hf, f_h0_9, f_h0_10])), (aW, .inr (10, [f_aW_0, .ref aC, f_aW_2, f_aW_3, f_aW_4, f_aW_5, f_aW_6])), (aC, .inr (1, [f_aC_0, f_aC_1, .int 0])), (hd, .inl (cs 0, 6, .inl g)), (hf, .inl (cs 0, 448, .inl (upd gf_84 27 1000000)))] H := hP
    have hD : va_D A [(h0, .inr (9, [f_h0_0, f_h0_1, f_h0_2, f_h0_3, f_h0_4, f_h0_5, .ref hd, f_h0_7, .ref hf, f_h0_9, f_h0_10])), (aW, .inr (10, [f_aW_0, .ref aC, f_aW_2, f_aW_3, f_aW_4, f_aW_5, f_aW_6])), (aC, .inr (1, [f_aC_0, f_aC_1, .int 0])), (hd, .inl (cs 0, 6, .inl g)), (hf, .inl (cs 0, 448, .inl (upd gf_84 27 1000000)))] := hD
    refine lv_iinc (v := 28) (lv' := [(8, .int 28), (7, .int 63), (6, .int 0), (0, .ref h0), (1, .ref aW), (2, .ref aA), (3, .long a), (5, .int (nI 6))]) hx hb dX9_share_108 hl (k := 0) rfl (by first | rfl | decide) (by decide) rfl (fun ls hl => ?_)
    refine lv_goto (tgt := 77) hx hb dX9_share_111 (by decide) ?_
    generalize (upd gf_84 27 1000000) = gf_85 at hP hD
    refine lv_iload hx hb dX9_share_77 (lv_at hl 0 rfl) ?_
    refine lv_iload hx hb dX9_share_79 (lv_at hl 1 rfl) ?_
    refine lv_icmp_gt (tgt := 114) hx hb dX9_share_81 (by decide) (fun h => absurd h (by decide)) (fun _ => ?_)
    refine lv_aload_n hx hb dX9_share_84 rfl (lv_at hl 3 rfl) ?_
    refine va_get (ci := 9) (v := .ref hf) (C := RX9) (T := TX9) (N := 11) hx hb htl inX9 hown hK hP 0 rfl rfl 8 (by decide) (htl _ fl_RX9_31) (fun _ h9 => h9) rfl dX9_share_85 ?_
    refine lv_iload hx hb dX9_share_88 (lv_at hl 2 rfl) ?_
    refine lv_bipush (v := 64) hx hb dX9_share_90 (by decide) ?_
    refine lv_imul hx hb dX9_share_92 ?_
    refine lv_topi (fun xv ex => ?_)
    obtain rfl : xv = 0 := ex.trans (by first | rfl | decide)
    refine lv_iload hx hb dX9_share_93 (lv_at hl 0 rfl) ?_
    refine lv_iadd hx hb dX9_share_95 ?_
    refine lv_topi (fun xv ex => ?_)
    obtain rfl : xv = 28 := ex.trans (by first | rfl | decide)
    refine lv_iload hx hb dX9_share_96 (lv_at hl 0 rfl) ?_
    refine lv_if_ne (tgt := 105) hx hb dX9_share_98 (by decide) (fun _ => ?_) (fun h => absurd h (by decide))
    refine lv_ldc hx hb hown (htl _ ct_RX9_68) dX9_share_105 ?_
    refine va_iast hx hb hK hP hD hS 4 0 rfl rfl (by unfold vp_in; decide) dX9_share_107 (fun H locs hP hD hS => ?_)
    have hP : va_P G vwCl [(h0, .inr (9, [f_h0_0, f_h0_1, f_h0_2, f_h0_3, f_h0_4, f_h0_5, .ref hd, f_h0_7, .ref hf, f_h0_9, f_h0_10])), (aW, .inr (10, [f_aW_0, .ref aC, f_aW_2, f_aW_3, f_aW_4, f_aW_5, f_aW_6])), (aC, .inr (1, [f_aC_0, f_aC_1, .int 0])), (hd, .inl (cs 0, 6, .inl g)), (hf, .inl (cs 0, 448, .inl (upd gf_85 28 1000000)))] H := hP
    have hD : va_D A [(h0, .inr (9, [f_h0_0, f_h0_1, f_h0_2, f_h0_3, f_h0_4, f_h0_5, .ref hd, f_h0_7, .ref hf, f_h0_9, f_h0_10])), (aW, .inr (10, [f_aW_0, .ref aC, f_aW_2, f_aW_3, f_aW_4, f_aW_5, f_aW_6])), (aC, .inr (1, [f_aC_0, f_aC_1, .int 0])), (hd, .inl (cs 0, 6, .inl g)), (hf, .inl (cs 0, 448, .inl (upd gf_85 28 1000000)))] := hD
    refine lv_iinc (v := 29) (lv' := [(8, .int 29), (7, .int 63), (6, .int 0), (0, .ref h0), (1, .ref aW), (2, .ref aA), (3, .long a), (5, .int (nI 6))]) hx hb dX9_share_108 hl (k := 0) rfl (by first | rfl | decide) (by decide) rfl (fun ls hl => ?_)
    refine lv_goto (tgt := 77) hx hb dX9_share_111 (by decide) ?_
    generalize (upd gf_85 28 1000000) = gf_86 at hP hD
    refine lv_iload hx hb dX9_share_77 (lv_at hl 0 rfl) ?_
    refine lv_iload hx hb dX9_share_79 (lv_at hl 1 rfl) ?_
    refine lv_icmp_gt (tgt := 114) hx hb dX9_share_81 (by decide) (fun h => absurd h (by decide)) (fun _ => ?_)
    refine lv_aload_n hx hb dX9_share_84 rfl (lv_at hl 3 rfl) ?_
    refine va_get (ci := 9) (v := .ref hf) (C := RX9) (T := TX9) (N := 11) hx hb htl inX9 hown hK hP 0 rfl rfl 8 (by decide) (htl _ fl_RX9_31) (fun _ h9 => h9) rfl dX9_share_85 ?_
    refine lv_iload hx hb dX9_share_88 (lv_at hl 2 rfl) ?_
    refine lv_bipush (v := 64) hx hb dX9_share_90 (by decide) ?_
    refine lv_imul hx hb dX9_share_92 ?_
    refine lv_topi (fun xv ex => ?_)
    obtain rfl : xv = 0 := ex.trans (by first | rfl | decide)
    refine lv_iload hx hb dX9_share_93 (lv_at hl 0 rfl) ?_
    refine lv_iadd hx hb dX9_share_95 ?_
    refine lv_topi (fun xv ex => ?_)
    obtain rfl : xv = 29 := ex.trans (by first | rfl | decide)
    refine lv_iload hx hb dX9_share_96 (lv_at hl 0 rfl) ?_
    refine lv_if_ne (tgt := 105) hx hb dX9_share_98 (by decide) (fun _ => ?_) (fun h => absurd h (by decide))
    refine lv_ldc hx hb hown (htl _ ct_RX9_68) dX9_share_105 ?_
    refine va_iast hx hb hK hP hD hS 4 0 rfl rfl (by unfold vp_in; decide) dX9_share_107 (fun H locs hP hD hS => ?_)
    have hP : va_P G vwCl [(h0, .inr (9, [f_h0_0, f_h0_1, f_h0_2, f_h0_3, f_h0_4, f_h0_5, .ref hd, f_h0_7, .ref hf, f_h0_9, f_h0_10])), (aW, .inr (10, [f_aW_0, .ref aC, f_aW_2, f_aW_3, f_aW_4, f_aW_5, f_aW_6])), (aC, .inr (1, [f_aC_0, f_aC_1, .int 0])), (hd, .inl (cs 0, 6, .inl g)), (hf, .inl (cs 0, 448, .inl (upd gf_86 29 1000000)))] H := hP
    have hD : va_D A [(h0, .inr (9, [f_h0_0, f_h0_1, f_h0_2, f_h0_3, f_h0_4, f_h0_5, .ref hd, f_h0_7, .ref hf, f_h0_9, f_h0_10])), (aW, .inr (10, [f_aW_0, .ref aC, f_aW_2, f_aW_3, f_aW_4, f_aW_5, f_aW_6])), (aC, .inr (1, [f_aC_0, f_aC_1, .int 0])), (hd, .inl (cs 0, 6, .inl g)), (hf, .inl (cs 0, 448, .inl (upd gf_86 29 1000000)))] := hD
    refine lv_iinc (v := 30) (lv' := [(8, .int 30), (7, .int 63), (6, .int 0), (0, .ref h0), (1, .ref aW), (2, .ref aA), (3, .long a), (5, .int (nI 6))]) hx hb dX9_share_108 hl (k := 0) rfl (by first | rfl | decide) (by decide) rfl (fun ls hl => ?_)
    refine lv_goto (tgt := 77) hx hb dX9_share_111 (by decide) ?_
    generalize (upd gf_86 29 1000000) = gf_87 at hP hD
    refine lv_iload hx hb dX9_share_77 (lv_at hl 0 rfl) ?_
    refine lv_iload hx hb dX9_share_79 (lv_at hl 1 rfl) ?_
    refine lv_icmp_gt (tgt := 114) hx hb dX9_share_81 (by decide) (fun h => absurd h (by decide)) (fun _ => ?_)
    refine lv_aload_n hx hb dX9_share_84 rfl (lv_at hl 3 rfl) ?_
    refine va_get (ci := 9) (v := .ref hf) (C := RX9) (T := TX9) (N := 11) hx hb htl inX9 hown hK hP 0 rfl rfl 8 (by decide) (htl _ fl_RX9_31) (fun _ h9 => h9) rfl dX9_share_85 ?_
    refine lv_iload hx hb dX9_share_88 (lv_at hl 2 rfl) ?_
    refine lv_bipush (v := 64) hx hb dX9_share_90 (by decide) ?_
    refine lv_imul hx hb dX9_share_92 ?_
    refine lv_topi (fun xv ex => ?_)
    obtain rfl : xv = 0 := ex.trans (by first | rfl | decide)
    refine lv_iload hx hb dX9_share_93 (lv_at hl 0 rfl) ?_
    refine lv_iadd hx hb dX9_share_95 ?_
    refine lv_topi (fun xv ex => ?_)
    obtain rfl : xv = 30 := ex.trans (by first | rfl | decide)
    refine lv_iload hx hb dX9_share_96 (lv_at hl 0 rfl) ?_
    refine lv_if_ne (tgt := 105) hx hb dX9_share_98 (by decide) (fun _ => ?_) (fun h => absurd h (by decide))
    refine lv_ldc hx hb hown (htl _ ct_RX9_68) dX9_share_105 ?_
    refine va_iast hx hb hK hP hD hS 4 0 rfl rfl (by unfold vp_in; decide) dX9_share_107 (fun H locs hP hD hS => ?_)
    have hP : va_P G vwCl [(h0, .inr (9, [f_h0_0, f_h0_1, f_h0_2, f_h0_3, f_h0_4, f_h0_5, .ref hd, f_h0_7, .ref hf, f_h0_9, f_h0_10])), (aW, .inr (10, [f_aW_0, .ref aC, f_aW_2, f_aW_3, f_aW_4, f_aW_5, f_aW_6])), (aC, .inr (1, [f_aC_0, f_aC_1, .int 0])), (hd, .inl (cs 0, 6, .inl g)), (hf, .inl (cs 0, 448, .inl (upd gf_87 30 1000000)))] H := hP
    have hD : va_D A [(h0, .inr (9, [f_h0_0, f_h0_1, f_h0_2, f_h0_3, f_h0_4, f_h0_5, .ref hd, f_h0_7, .ref hf, f_h0_9, f_h0_10])), (aW, .inr (10, [f_aW_0, .ref aC, f_aW_2, f_aW_3, f_aW_4, f_aW_5, f_aW_6])), (aC, .inr (1, [f_aC_0, f_aC_1, .int 0])), (hd, .inl (cs 0, 6, .inl g)), (hf, .inl (cs 0, 448, .inl (upd gf_87 30 1000000)))] := hD
    refine lv_iinc (v := 31) (lv' := [(8, .int 31), (7, .int 63), (6, .int 0), (0, .ref h0), (1, .ref aW), (2, .ref aA), (3, .long a), (5, .int (nI 6))]) hx hb dX9_share_108 hl (k := 0) rfl (by first | rfl | decide) (by decide) rfl (fun ls hl => ?_)
    refine lv_goto (tgt := 77) hx hb dX9_share_111 (by decide) ?_
    generalize (upd gf_87 30 1000000) = gf_88 at hP hD
    refine lv_iload hx hb dX9_share_77 (lv_at hl 0 rfl) ?_
    refine lv_iload hx hb dX9_share_79 (lv_at hl 1 rfl) ?_
    refine lv_icmp_gt (tgt := 114) hx hb dX9_share_81 (by decide) (fun h => absurd h (by decide)) (fun _ => ?_)
    refine lv_aload_n hx hb dX9_share_84 rfl (lv_at hl 3 rfl) ?_
    refine va_get (ci := 9) (v := .ref hf) (C := RX9) (T := TX9) (N := 11) hx hb htl inX9 hown hK hP 0 rfl rfl 8 (by decide) (htl _ fl_RX9_31) (fun _ h9 => h9) rfl dX9_share_85 ?_
    refine lv_iload hx hb dX9_share_88 (lv_at hl 2 rfl) ?_
    refine lv_bipush (v := 64) hx hb dX9_share_90 (by decide) ?_
    refine lv_imul hx hb dX9_share_92 ?_
    refine lv_topi (fun xv ex => ?_)
    obtain rfl : xv = 0 := ex.trans (by first | rfl | decide)
    refine lv_iload hx hb dX9_share_93 (lv_at hl 0 rfl) ?_
    refine lv_iadd hx hb dX9_share_95 ?_
    refine lv_topi (fun xv ex => ?_)
    obtain rfl : xv = 31 := ex.trans (by first | rfl | decide)
    refine lv_iload hx hb dX9_share_96 (lv_at hl 0 rfl) ?_
    refine lv_if_ne (tgt := 105) hx hb dX9_share_98 (by decide) (fun _ => ?_) (fun h => absurd h (by decide))
    refine lv_ldc hx hb hown (htl _ ct_RX9_68) dX9_share_105 ?_
    refine va_iast hx hb hK hP hD hS 4 0 rfl rfl (by unfold vp_in; decide) dX9_share_107 (fun H locs hP hD hS => ?_)
    have hP : va_P G vwCl [(h0, .inr (9, [f_h0_0, f_h0_1, f_h0_2, f_h0_3, f_h0_4, f_h0_5, .ref hd, f_h0_7, .ref hf, f_h0_9, f_h0_10])), (aW, .inr (10, [f_aW_0, .ref aC, f_aW_2, f_aW_3, f_aW_4, f_aW_5, f_aW_6])), (aC, .inr (1, [f_aC_0, f_aC_1, .int 0])), (hd, .inl (cs 0, 6, .inl g)), (hf, .inl (cs 0, 448, .inl (upd gf_88 31 1000000)))] H := hP
    have hD : va_D A [(h0, .inr (9, [f_h0_0, f_h0_1, f_h0_2, f_h0_3, f_h0_4, f_h0_5, .ref hd, f_h0_7, .ref hf, f_h0_9, f_h0_10])), (aW, .inr (10, [f_aW_0, .ref aC, f_aW_2, f_aW_3, f_aW_4, f_aW_5, f_aW_6])), (aC, .inr (1, [f_aC_0, f_aC_1, .int 0])), (hd, .inl (cs 0, 6, .inl g)), (hf, .inl (cs 0, 448, .inl (upd gf_88 31 1000000)))] := hD
    refine lv_iinc (v := 32) (lv' := [(8, .int 32), (7, .int 63), (6, .int 0), (0, .ref h0), (1, .ref aW), (2, .ref aA), (3, .long a), (5, .int (nI 6))]) hx hb dX9_share_108 hl (k := 0) rfl (by first | rfl | decide) (by decide) rfl (fun ls hl => ?_)
    refine lv_goto (tgt := 77) hx hb dX9_share_111 (by decide) ?_
    generalize (upd gf_88 31 1000000) = gf_89 at hP hD
    refine lv_iload hx hb dX9_share_77 (lv_at hl 0 rfl) ?_
    refine lv_iload hx hb dX9_share_79 (lv_at hl 1 rfl) ?_
    refine lv_icmp_gt (tgt := 114) hx hb dX9_share_81 (by decide) (fun h => absurd h (by decide)) (fun _ => ?_)
    refine lv_aload_n hx hb dX9_share_84 rfl (lv_at hl 3 rfl) ?_
    refine va_get (ci := 9) (v := .ref hf) (C := RX9) (T := TX9) (N := 11) hx hb htl inX9 hown hK hP 0 rfl rfl 8 (by decide) (htl _ fl_RX9_31) (fun _ h9 => h9) rfl dX9_share_85 ?_
    refine lv_iload hx hb dX9_share_88 (lv_at hl 2 rfl) ?_
    refine lv_bipush (v := 64) hx hb dX9_share_90 (by decide) ?_
    refine lv_imul hx hb dX9_share_92 ?_
    refine lv_topi (fun xv ex => ?_)
    obtain rfl : xv = 0 := ex.trans (by first | rfl | decide)
    refine lv_iload hx hb dX9_share_93 (lv_at hl 0 rfl) ?_
    refine lv_iadd hx hb dX9_share_95 ?_
    refine lv_topi (fun xv ex => ?_)
    obtain rfl : xv = 32 := ex.trans (by first | rfl | decide)
    refine lv_iload hx hb dX9_share_96 (lv_at hl 0 rfl) ?_
    refine lv_if_ne (tgt := 105) hx hb dX9_share_98 (by decide) (fun _ => ?_) (fun h => absurd h (by decide))
    refine lv_ldc hx hb hown (htl _ ct_RX9_68) dX9_share_105 ?_
    refine va_iast hx hb hK hP hD hS 4 0 rfl rfl (by unfold vp_in; decide) dX9_share_107 (fun H locs hP hD hS => ?_)
    have hP : va_P G vwCl [(h0, .inr (9, [f_h0_0, f_h0_1, f_h0_2, f_h0_3, f_h0_4, f_h0_5, .ref hd, f_h0_7, .ref hf, f_h0_9, f_h0_10])), (aW, .inr (10, [f_aW_0, .ref aC, f_aW_2, f_aW_3, f_aW_4, f_aW_5, f_aW_6])), (aC, .inr (1, [f_aC_0, f_aC_1, .int 0])), (hd, .inl (cs 0, 6, .inl g)), (hf, .inl (cs 0, 448, .inl (upd gf_89 32 1000000)))] H := hP
    have hD : va_D A [(h0, .inr (9, [f_h0_0, f_h0_1, f_h0_2, f_h0_3, f_h0_4, f_h0_5, .ref hd, f_h0_7, .ref hf, f_h0_9, f_h0_10])), (aW, .inr (10, [f_aW_0, .ref aC, f_aW_2, f_aW_3, f_aW_4, f_aW_5, f_aW_6])), (aC, .inr (1, [f_aC_0, f_aC_1, .int 0])), (hd, .inl (cs 0, 6, .inl g)), (hf, .inl (cs 0, 448, .inl (upd gf_89 32 1000000)))] := hD
    refine lv_iinc (v := 33) (lv' := [(8, .int 33), (7, .int 63), (6, .int 0), (0, .ref h0), (1, .ref aW), (2, .ref aA), (3, .long a), (5, .int (nI 6))]) hx hb dX9_share_108 hl (k := 0) rfl (by first | rfl | decide) (by decide) rfl (fun ls hl => ?_)
    refine lv_goto (tgt := 77) hx hb dX9_share_111 (by decide) ?_
    generalize (upd gf_89 32 1000000) = gf_90 at hP hD
    refine lv_iload hx hb dX9_share_77 (lv_at hl 0 rfl) ?_
    refine lv_iload hx hb dX9_share_79 (lv_at hl 1 rfl) ?_
    refine lv_icmp_gt (tgt := 114) hx hb dX9_share_81 (by decide) (fun h => absurd h (by decide)) (fun _ => ?_)
    refine lv_aload_n hx hb dX9_share_84 rfl (lv_at hl 3 rfl) ?_
    refine va_get (ci := 9) (v := .ref hf) (C := RX9) (T := TX9) (N := 11) hx hb htl inX9 hown hK hP 0 rfl rfl 8 (by decide) (htl _ fl_RX9_31) (fun _ h9 => h9) rfl dX9_share_85 ?_
    refine lv_iload hx hb dX9_share_88 (lv_at hl 2 rfl) ?_
    refine lv_bipush (v := 64) hx hb dX9_share_90 (by decide) ?_
    refine lv_imul hx hb dX9_share_92 ?_
    refine lv_topi (fun xv ex => ?_)
    obtain rfl : xv = 0 := ex.trans (by first | rfl | decide)
    refine lv_iload hx hb dX9_share_93 (lv_at hl 0 rfl) ?_
    refine lv_iadd hx hb dX9_share_95 ?_
    refine lv_topi (fun xv ex => ?_)
    obtain rfl : xv = 33 := ex.trans (by first | rfl | decide)
    refine lv_iload hx hb dX9_share_96 (lv_at hl 0 rfl) ?_
    refine lv_if_ne (tgt := 105) hx hb dX9_share_98 (by decide) (fun _ => ?_) (fun h => absurd h (by decide))
    refine lv_ldc hx hb hown (htl _ ct_RX9_68) dX9_share_105 ?_
    refine va_iast hx hb hK hP hD hS 4 0 rfl rfl (by unfold vp_in; decide) dX9_share_107 (fun H locs hP hD hS => ?_)
    have hP : va_P G vwCl [(h0, .inr (9, [f_h0_0, f_h0_1, f_h0_2, f_h0_3, f_h0_4, f_h0_5, .ref hd, f_h0_7, .ref hf, f_h0_9, f_h0_10])), (aW, .inr (10, [f_aW_0, .ref aC, f_aW_2, f_aW_3, f_aW_4, f_aW_5, f_aW_6])), (aC, .inr (1, [f_aC_0, f_aC_1, .int 0])), (hd, .inl (cs 0, 6, .inl g)), (hf, .inl (cs 0, 448, .inl (upd gf_90 33 1000000)))] H := hP
    have hD : va_D A [(h0, .inr (9, [f_h0_0, f_h0_1, f_h0_2, f_h0_3, f_h0_4, f_h0_5, .ref hd, f_h0_7, .ref hf, f_h0_9, f_h0_10])), (aW, .inr (10, [f_aW_0, .ref aC, f_aW_2, f_aW_3, f_aW_4, f_aW_5, f_aW_6])), (aC, .inr (1, [f_aC_0, f_aC_1, .int 0])), (hd, .inl (cs 0, 6, .inl g)), (hf, .inl (cs 0, 448, .inl (upd gf_90 33 1000000)))] := hD
    refine lv_iinc (v := 34) (lv' := [(8, .int 34), (7, .int 63), (6, .int 0), (0, .ref h0), (1, .ref aW), (2, .ref aA), (3, .long a), (5, .int (nI 6))]) hx hb dX9_share_108 hl (k := 0) rfl (by first | rfl | decide) (by decide) rfl (fun ls hl => ?_)
    refine lv_goto (tgt := 77) hx hb dX9_share_111 (by decide) ?_
    generalize (upd gf_90 33 1000000) = gf_91 at hP hD
    refine lv_iload hx hb dX9_share_77 (lv_at hl 0 rfl) ?_
    refine lv_iload hx hb dX9_share_79 (lv_at hl 1 rfl) ?_
    refine lv_icmp_gt (tgt := 114) hx hb dX9_share_81 (by decide) (fun h => absurd h (by decide)) (fun _ => ?_)
    refine lv_aload_n hx hb dX9_share_84 rfl (lv_at hl 3 rfl) ?_
    refine va_get (ci := 9) (v := .ref hf) (C := RX9) (T := TX9) (N := 11) hx hb htl inX9 hown hK hP 0 rfl rfl 8 (by decide) (htl _ fl_RX9_31) (fun _ h9 => h9) rfl dX9_share_85 ?_
    refine lv_iload hx hb dX9_share_88 (lv_at hl 2 rfl) ?_
    refine lv_bipush (v := 64) hx hb dX9_share_90 (by decide) ?_
    refine lv_imul hx hb dX9_share_92 ?_
    refine lv_topi (fun xv ex => ?_)
    obtain rfl : xv = 0 := ex.trans (by first | rfl | decide)
    refine lv_iload hx hb dX9_share_93 (lv_at hl 0 rfl) ?_
    refine lv_iadd hx hb dX9_share_95 ?_
    refine lv_topi (fun xv ex => ?_)
    obtain rfl : xv = 34 := ex.trans (by first | rfl | decide)
    refine lv_iload hx hb dX9_share_96 (lv_at hl 0 rfl) ?_
    refine lv_if_ne (tgt := 105) hx hb dX9_share_98 (by decide) (fun _ => ?_) (fun h => absurd h (by decide))
    refine lv_ldc hx hb hown (htl _ ct_RX9_68) dX9_share_105 ?_
    refine va_iast hx hb hK hP hD hS 4 0 rfl rfl (by unfold vp_in; decide) dX9_share_107 (fun H locs hP hD hS => ?_)
    have hP : va_P G vwCl [(h0, .inr (9, [f_h0_0, f_h0_1, f_h0_2, f_h0_3, f_h0_4, f_h0_5, .ref hd, f_h0_7, .ref hf, f_h0_9, f_h0_10])), (aW, .inr (10, [f_aW_0, .ref aC, f_aW_2, f_aW_3, f_aW_4, f_aW_5, f_aW_6])), (aC, .inr (1, [f_aC_0, f_aC_1, .int 0])), (hd, .inl (cs 0, 6, .inl g)), (hf, .inl (cs 0, 448, .inl (upd gf_91 34 1000000)))] H := hP
    have hD : va_D A [(h0, .inr (9, [f_h0_0, f_h0_1, f_h0_2, f_h0_3, f_h0_4, f_h0_5, .ref hd, f_h0_7, .ref hf, f_h0_9, f_h0_10])), (aW, .inr (10, [f_aW_0, .ref aC, f_aW_2, f_aW_3, f_aW_4, f_aW_5, f_aW_6])), (aC, .inr (1, [f_aC_0, f_aC_1, .int 0])), (hd, .inl (cs 0, 6, .inl g)), (hf, .inl (cs 0, 448, .inl (upd gf_91 34 1000000)))] := hD
    refine lv_iinc (v := 35) (lv' := [(8, .int 35), (7, .int 63), (6, .int 0), (0, .ref h0), (1, .ref aW), (2, .ref aA), (3, .long a), (5, .int (nI 6))]) hx hb dX9_share_108 hl (k := 0) rfl (by first | rfl | decide) (by decide) rfl (fun ls hl => ?_)
    refine lv_goto (tgt := 77) hx hb dX9_share_111 (by decide) ?_
    generalize (upd gf_91 34 1000000) = gf_92 at hP hD
    refine lv_iload hx hb dX9_share_77 (lv_at hl 0 rfl) ?_
    refine lv_iload hx hb dX9_share_79 (lv_at hl 1 rfl) ?_
    refine lv_icmp_gt (tgt := 114) hx hb dX9_share_81 (by decide) (fun h => absurd h (by decide)) (fun _ => ?_)
    refine lv_aload_n hx hb dX9_share_84 rfl (lv_at hl 3 rfl) ?_
    refine va_get (ci := 9) (v := .ref hf) (C := RX9) (T := TX9) (N := 11) hx hb htl inX9 hown hK hP 0 rfl rfl 8 (by decide) (htl _ fl_RX9_31) (fun _ h9 => h9) rfl dX9_share_85 ?_
    refine lv_iload hx hb dX9_share_88 (lv_at hl 2 rfl) ?_
    refine lv_bipush (v := 64) hx hb dX9_share_90 (by decide) ?_
    refine lv_imul hx hb dX9_share_92 ?_
    refine lv_topi (fun xv ex => ?_)
    obtain rfl : xv = 0 := ex.trans (by first | rfl | decide)
    refine lv_iload hx hb dX9_share_93 (lv_at hl 0 rfl) ?_
    refine lv_iadd hx hb dX9_share_95 ?_
    refine lv_topi (fun xv ex => ?_)
    obtain rfl : xv = 35 := ex.trans (by first | rfl | decide)
    refine lv_iload hx hb dX9_share_96 (lv_at hl 0 rfl) ?_
    refine lv_if_ne (tgt := 105) hx hb dX9_share_98 (by decide) (fun _ => ?_) (fun h => absurd h (by decide))
    refine lv_ldc hx hb hown (htl _ ct_RX9_68) dX9_share_105 ?_
    refine va_iast hx hb hK hP hD hS 4 0 rfl rfl (by unfold vp_in; decide) dX9_share_107 (fun H locs hP hD hS => ?_)
    have hP : va_P G vwCl [(h0, .inr (9, [f_h0_0, f_h0_1, f_h0_2, f_h0_3, f_h0_4, f_h0_5, .ref hd, f_h0_7, .ref hf, f_h0_9, f_h0_10])), (aW, .inr (10, [f_aW_0, .ref aC, f_aW_2, f_aW_3, f_aW_4, f_aW_5, f_aW_6])), (aC, .inr (1, [f_aC_0, f_aC_1, .int 0])), (hd, .inl (cs 0, 6, .inl g)), (hf, .inl (cs 0, 448, .inl (upd gf_92 35 1000000)))] H := hP
    have hD : va_D A [(h0, .inr (9, [f_h0_0, f_h0_1, f_h0_2, f_h0_3, f_h0_4, f_h0_5, .ref hd, f_h0_7, .ref hf, f_h0_9, f_h0_10])), (aW, .inr (10, [f_aW_0, .ref aC, f_aW_2, f_aW_3, f_aW_4, f_aW_5, f_aW_6])), (aC, .inr (1, [f_aC_0, f_aC_1, .int 0])), (hd, .inl (cs 0, 6, .inl g)), (hf, .inl (cs 0, 448, .inl (upd gf_92 35 1000000)))] := hD
    refine lv_iinc (v := 36) (lv' := [(8, .int 36), (7, .int 63), (6, .int 0), (0, .ref h0), (1, .ref aW), (2, .ref aA), (3, .long a), (5, .int (nI 6))]) hx hb dX9_share_108 hl (k := 0) rfl (by first | rfl | decide) (by decide) rfl (fun ls hl => ?_)
    refine lv_goto (tgt := 77) hx hb dX9_share_111 (by decide) ?_
    generalize (upd gf_92 35 1000000) = gf_93 at hP hD
    refine lv_iload hx hb dX9_share_77 (lv_at hl 0 rfl) ?_
    refine lv_iload hx hb dX9_share_79 (lv_at hl 1 rfl) ?_
    refine lv_icmp_gt (tgt := 114) hx hb dX9_share_81 (by decide) (fun h => absurd h (by decide)) (fun _ => ?_)
    refine lv_aload_n hx hb dX9_share_84 rfl (lv_at hl 3 rfl) ?_
    refine va_get (ci := 9) (v := .ref hf) (C := RX9) (T := TX9) (N := 11) hx hb htl inX9 hown hK hP 0 rfl rfl 8 (by decide) (htl _ fl_RX9_31) (fun _ h9 => h9) rfl dX9_share_85 ?_
    refine lv_iload hx hb dX9_share_88 (lv_at hl 2 rfl) ?_
    refine lv_bipush (v := 64) hx hb dX9_share_90 (by decide) ?_
    refine lv_imul hx hb dX9_share_92 ?_
    refine lv_topi (fun xv ex => ?_)
    obtain rfl : xv = 0 := ex.trans (by first | rfl | decide)
    refine lv_iload hx hb dX9_share_93 (lv_at hl 0 rfl) ?_
    refine lv_iadd hx hb dX9_share_95 ?_
    refine lv_topi (fun xv ex => ?_)
    obtain rfl : xv = 36 := ex.trans (by first | rfl | decide)
    refine lv_iload hx hb dX9_share_96 (lv_at hl 0 rfl) ?_
    refine lv_if_ne (tgt := 105) hx hb dX9_share_98 (by decide) (fun _ => ?_) (fun h => absurd h (by decide))
    refine lv_ldc hx hb hown (htl _ ct_RX9_68) dX9_share_105 ?_
    refine va_iast hx hb hK hP hD hS 4 0 rfl rfl (by unfold vp_in; decide) dX9_share_107 (fun H locs hP hD hS => ?_)
    have hP : va_P G vwCl [(h0, .inr (9, [f_h0_0, f_h0_1, f_h0_2, f_h0_3, f_h0_4, f_h0_5, .ref hd, f_h0_7, .ref hf, f_h0_9, f_h0_10])), (aW, .inr (10, [f_aW_0, .ref aC, f_aW_2, f_aW_3, f_aW_4, f_aW_5, f_aW_6])), (aC, .inr (1, [f_aC_0, f_aC_1, .int 0])), (hd, .inl (cs 0, 6, .inl g)), (hf, .inl (cs 0, 448, .inl (upd gf_93 36 1000000)))] H := hP
    have hD : va_D A [(h0, .inr (9, [f_h0_0, f_h0_1, f_h0_2, f_h0_3, f_h0_4, f_h0_5, .ref hd, f_h0_7, .ref hf, f_h0_9, f_h0_10])), (aW, .inr (10, [f_aW_0, .ref aC, f_aW_2, f_aW_3, f_aW_4, f_aW_5, f_aW_6])), (aC, .inr (1, [f_aC_0, f_aC_1, .int 0])), (hd, .inl (cs 0, 6, .inl g)), (hf, .inl (cs 0, 448, .inl (upd gf_93 36 1000000)))] := hD
    refine lv_iinc (v := 37) (lv' := [(8, .int 37), (7, .int 63), (6, .int 0), (0, .ref h0), (1, .ref aW), (2, .ref aA), (3, .long a), (5, .int (nI 6))]) hx hb dX9_share_108 hl (k := 0) rfl (by first | rfl | decide) (by decide) rfl (fun ls hl => ?_)
    refine lv_goto (tgt := 77) hx hb dX9_share_111 (by decide) ?_
    generalize (upd gf_93 36 1000000) = gf_94 at hP hD
    refine lv_iload hx hb dX9_share_77 (lv_at hl 0 rfl) ?_
    refine lv_iload hx hb dX9_share_79 (lv_at hl 1 rfl) ?_
    refine lv_icmp_gt (tgt := 114) hx hb dX9_share_81 (by decide) (fun h => absurd h (by decide)) (fun _ => ?_)
    refine lv_aload_n hx hb dX9_share_84 rfl (lv_at hl 3 rfl) ?_
    refine va_get (ci := 9) (v := .ref hf) (C := RX9) (T := TX9) (N := 11) hx hb htl inX9 hown hK hP 0 rfl rfl 8 (by decide) (htl _ fl_RX9_31) (fun _ h9 => h9) rfl dX9_share_85 ?_
    refine lv_iload hx hb dX9_share_88 (lv_at hl 2 rfl) ?_
    refine lv_bipush (v := 64) hx hb dX9_share_90 (by decide) ?_
    refine lv_imul hx hb dX9_share_92 ?_
    refine lv_topi (fun xv ex => ?_)
    obtain rfl : xv = 0 := ex.trans (by first | rfl | decide)
    refine lv_iload hx hb dX9_share_93 (lv_at hl 0 rfl) ?_
    refine lv_iadd hx hb dX9_share_95 ?_
    refine lv_topi (fun xv ex => ?_)
    obtain rfl : xv = 37 := ex.trans (by first | rfl | decide)
    refine lv_iload hx hb dX9_share_96 (lv_at hl 0 rfl) ?_
    refine lv_if_ne (tgt := 105) hx hb dX9_share_98 (by decide) (fun _ => ?_) (fun h => absurd h (by decide))
    refine lv_ldc hx hb hown (htl _ ct_RX9_68) dX9_share_105 ?_
    refine va_iast hx hb hK hP hD hS 4 0 rfl rfl (by unfold vp_in; decide) dX9_share_107 (fun H locs hP hD hS => ?_)
    have hP : va_P G vwCl [(h0, .inr (9, [f_h0_0, f_h0_1, f_h0_2, f_h0_3, f_h0_4, f_h0_5, .ref hd, f_h0_7, .ref hf, f_h0_9, f_h0_10])), (aW, .inr (10, [f_aW_0, .ref aC, f_aW_2, f_aW_3, f_aW_4, f_aW_5, f_aW_6])), (aC, .inr (1, [f_aC_0, f_aC_1, .int 0])), (hd, .inl (cs 0, 6, .inl g)), (hf, .inl (cs 0, 448, .inl (upd gf_94 37 1000000)))] H := hP
    have hD : va_D A [(h0, .inr (9, [f_h0_0, f_h0_1, f_h0_2, f_h0_3, f_h0_4, f_h0_5, .ref hd, f_h0_7, .ref hf, f_h0_9, f_h0_10])), (aW, .inr (10, [f_aW_0, .ref aC, f_aW_2, f_aW_3, f_aW_4, f_aW_5, f_aW_6])), (aC, .inr (1, [f_aC_0, f_aC_1, .int 0])), (hd, .inl (cs 0, 6, .inl g)), (hf, .inl (cs 0, 448, .inl (upd gf_94 37 1000000)))] := hD
    refine lv_iinc (v := 38) (lv' := [(8, .int 38), (7, .int 63), (6, .int 0), (0, .ref h0), (1, .ref aW), (2, .ref aA), (3, .long a), (5, .int (nI 6))]) hx hb dX9_share_108 hl (k := 0) rfl (by first | rfl | decide) (by decide) rfl (fun ls hl => ?_)
    refine lv_goto (tgt := 77) hx hb dX9_share_111 (by decide) ?_
    generalize (upd gf_94 37 1000000) = gf_95 at hP hD
    refine lv_iload hx hb dX9_share_77 (lv_at hl 0 rfl) ?_
    refine lv_iload hx hb dX9_share_79 (lv_at hl 1 rfl) ?_
    refine lv_icmp_gt (tgt := 114) hx hb dX9_share_81 (by decide) (fun h => absurd h (by decide)) (fun _ => ?_)
    refine lv_aload_n hx hb dX9_share_84 rfl (lv_at hl 3 rfl) ?_
    refine va_get (ci := 9) (v := .ref hf) (C := RX9) (T := TX9) (N := 11) hx hb htl inX9 hown hK hP 0 rfl rfl 8 (by decide) (htl _ fl_RX9_31) (fun _ h9 => h9) rfl dX9_share_85 ?_
    refine lv_iload hx hb dX9_share_88 (lv_at hl 2 rfl) ?_
    refine lv_bipush (v := 64) hx hb dX9_share_90 (by decide) ?_
    refine lv_imul hx hb dX9_share_92 ?_
    refine lv_topi (fun xv ex => ?_)
    obtain rfl : xv = 0 := ex.trans (by first | rfl | decide)
    refine lv_iload hx hb dX9_share_93 (lv_at hl 0 rfl) ?_
    refine lv_iadd hx hb dX9_share_95 ?_
    refine lv_topi (fun xv ex => ?_)
    obtain rfl : xv = 38 := ex.trans (by first | rfl | decide)
    refine lv_iload hx hb dX9_share_96 (lv_at hl 0 rfl) ?_
    refine lv_if_ne (tgt := 105) hx hb dX9_share_98 (by decide) (fun _ => ?_) (fun h => absurd h (by decide))
    refine lv_ldc hx hb hown (htl _ ct_RX9_68) dX9_share_105 ?_
    refine va_iast hx hb hK hP hD hS 4 0 rfl rfl (by unfold vp_in; decide) dX9_share_107 (fun H locs hP hD hS => ?_)
    have hP : va_P G vwCl [(h0, .inr (9, [f_h0_0, f_h0_1, f_h0_2, f_h0_3, f_h0_4, f_h0_5, .ref hd, f_h0_7, .ref hf, f_h0_9, f_h0_10])), (aW, .inr (10, [f_aW_0, .ref aC, f_aW_2, f_aW_3, f_aW_4, f_aW_5, f_aW_6])), (aC, .inr (1, [f_aC_0, f_aC_1, .int 0])), (hd, .inl (cs 0, 6, .inl g)), (hf, .inl (cs 0, 448, .inl (upd gf_95 38 1000000)))] H := hP
    have hD : va_D A [(h0, .inr (9, [f_h0_0, f_h0_1, f_h0_2, f_h0_3, f_h0_4, f_h0_5, .ref hd, f_h0_7, .ref hf, f_h0_9, f_h0_10])), (aW, .inr (10, [f_aW_0, .ref aC, f_aW_2, f_aW_3, f_aW_4, f_aW_5, f_aW_6])), (aC, .inr (1, [f_aC_0, f_aC_1, .int 0])), (hd, .inl (cs 0, 6, .inl g)), (hf, .inl (cs 0, 448, .inl (upd gf_95 38 1000000)))] := hD
    refine lv_iinc (v := 39) (lv' := [(8, .int 39), (7, .int 63), (6, .int 0), (0, .ref h0), (1, .ref aW), (2, .ref aA), (3, .long a), (5, .int (nI 6))]) hx hb dX9_share_108 hl (k := 0) rfl (by first | rfl | decide) (by decide) rfl (fun ls hl => ?_)
    refine lv_goto (tgt := 77) hx hb dX9_share_111 (by decide) ?_
    generalize (upd gf_95 38 1000000) = gf_96 at hP hD
    refine lv_iload hx hb dX9_share_77 (lv_at hl 0 rfl) ?_
    refine lv_iload hx hb dX9_share_79 (lv_at hl 1 rfl) ?_
    refine lv_icmp_gt (tgt := 114) hx hb dX9_share_81 (by decide) (fun h => absurd h (by decide)) (fun _ => ?_)
    refine lv_aload_n hx hb dX9_share_84 rfl (lv_at hl 3 rfl) ?_
    refine va_get (ci := 9) (v := .ref hf) (C := RX9) (T := TX9) (N := 11) hx hb htl inX9 hown hK hP 0 rfl rfl 8 (by decide) (htl _ fl_RX9_31) (fun _ h9 => h9) rfl dX9_share_85 ?_
    refine lv_iload hx hb dX9_share_88 (lv_at hl 2 rfl) ?_
    refine lv_bipush (v := 64) hx hb dX9_share_90 (by decide) ?_
    refine lv_imul hx hb dX9_share_92 ?_
    refine lv_topi (fun xv ex => ?_)
    obtain rfl : xv = 0 := ex.trans (by first | rfl | decide)
    refine lv_iload hx hb dX9_share_93 (lv_at hl 0 rfl) ?_
    refine lv_iadd hx hb dX9_share_95 ?_
    refine lv_topi (fun xv ex => ?_)
    obtain rfl : xv = 39 := ex.trans (by first | rfl | decide)
    refine lv_iload hx hb dX9_share_96 (lv_at hl 0 rfl) ?_
    refine lv_if_ne (tgt := 105) hx hb dX9_share_98 (by decide) (fun _ => ?_) (fun h => absurd h (by decide))
    refine lv_ldc hx hb hown (htl _ ct_RX9_68) dX9_share_105 ?_
    refine va_iast hx hb hK hP hD hS 4 0 rfl rfl (by unfold vp_in; decide) dX9_share_107 (fun H locs hP hD hS => ?_)
    have hP : va_P G vwCl [(h0, .inr (9, [f_h0_0, f_h0_1, f_h0_2, f_h0_3, f_h0_4, f_h0_5, .ref hd, f_h0_7, .ref hf, f_h0_9, f_h0_10])), (aW, .inr (10, [f_aW_0, .ref aC, f_aW_2, f_aW_3, f_aW_4, f_aW_5, f_aW_6])), (aC, .inr (1, [f_aC_0, f_aC_1, .int 0])), (hd, .inl (cs 0, 6, .inl g)), (hf, .inl (cs 0, 448, .inl (upd gf_96 39 1000000)))] H := hP
    have hD : va_D A [(h0, .inr (9, [f_h0_0, f_h0_1, f_h0_2, f_h0_3, f_h0_4, f_h0_5, .ref hd, f_h0_7, .ref hf, f_h0_9, f_h0_10])), (aW, .inr (10, [f_aW_0, .ref aC, f_aW_2, f_aW_3, f_aW_4, f_aW_5, f_aW_6])), (aC, .inr (1, [f_aC_0, f_aC_1, .int 0])), (hd, .inl (cs 0, 6, .inl g)), (hf, .inl (cs 0, 448, .inl (upd gf_96 39 1000000)))] := hD
    refine lv_iinc (v := 40) (lv' := [(8, .int 40), (7, .int 63), (6, .int 0), (0, .ref h0), (1, .ref aW), (2, .ref aA), (3, .long a), (5, .int (nI 6))]) hx hb dX9_share_108 hl (k := 0) rfl (by first | rfl | decide) (by decide) rfl (fun ls hl => ?_)
    refine lv_goto (tgt := 77) hx hb dX9_share_111 (by decide) ?_
    generalize (upd gf_96 39 1000000) = gf_97 at hP hD
    refine lv_iload hx hb dX9_share_77 (lv_at hl 0 rfl) ?_
    refine lv_iload hx hb dX9_share_79 (lv_at hl 1 rfl) ?_
    refine lv_icmp_gt (tgt := 114) hx hb dX9_share_81 (by decide) (fun h => absurd h (by decide)) (fun _ => ?_)
    refine lv_aload_n hx hb dX9_share_84 rfl (lv_at hl 3 rfl) ?_
    refine va_get (ci := 9) (v := .ref hf) (C := RX9) (T := TX9) (N := 11) hx hb htl inX9 hown hK hP 0 rfl rfl 8 (by decide) (htl _ fl_RX9_31) (fun _ h9 => h9) rfl dX9_share_85 ?_
    refine lv_iload hx hb dX9_share_88 (lv_at hl 2 rfl) ?_
    refine lv_bipush (v := 64) hx hb dX9_share_90 (by decide) ?_
    refine lv_imul hx hb dX9_share_92 ?_
    refine lv_topi (fun xv ex => ?_)
    obtain rfl : xv = 0 := ex.trans (by first | rfl | decide)
    refine lv_iload hx hb dX9_share_93 (lv_at hl 0 rfl) ?_
    refine lv_iadd hx hb dX9_share_95 ?_
    refine lv_topi (fun xv ex => ?_)
    obtain rfl : xv = 40 := ex.trans (by first | rfl | decide)
    refine lv_iload hx hb dX9_share_96 (lv_at hl 0 rfl) ?_
    refine lv_if_ne (tgt := 105) hx hb dX9_share_98 (by decide) (fun _ => ?_) (fun h => absurd h (by decide))
    refine lv_ldc hx hb hown (htl _ ct_RX9_68) dX9_share_105 ?_
    refine va_iast hx hb hK hP hD hS 4 0 rfl rfl (by unfold vp_in; decide) dX9_share_107 (fun H locs hP hD hS => ?_)
    have hP : va_P G vwCl [(h0, .inr (9, [f_h0_0, f_h0_1, f_h0_2, f_h0_3, f_h0_4, f_h0_5, .ref hd, f_h0_7, .ref hf, f_h0_9, f_h0_10])), (aW, .inr (10, [f_aW_0, .ref aC, f_aW_2, f_aW_3, f_aW_4, f_aW_5, f_aW_6])), (aC, .inr (1, [f_aC_0, f_aC_1, .int 0])), (hd, .inl (cs 0, 6, .inl g)), (hf, .inl (cs 0, 448, .inl (upd gf_97 40 1000000)))] H := hP
    have hD : va_D A [(h0, .inr (9, [f_h0_0, f_h0_1, f_h0_2, f_h0_3, f_h0_4, f_h0_5, .ref hd, f_h0_7, .ref hf, f_h0_9, f_h0_10])), (aW, .inr (10, [f_aW_0, .ref aC, f_aW_2, f_aW_3, f_aW_4, f_aW_5, f_aW_6])), (aC, .inr (1, [f_aC_0, f_aC_1, .int 0])), (hd, .inl (cs 0, 6, .inl g)), (hf, .inl (cs 0, 448, .inl (upd gf_97 40 1000000)))] := hD
    refine lv_iinc (v := 41) (lv' := [(8, .int 41), (7, .int 63), (6, .int 0), (0, .ref h0), (1, .ref aW), (2, .ref aA), (3, .long a), (5, .int (nI 6))]) hx hb dX9_share_108 hl (k := 0) rfl (by first | rfl | decide) (by decide) rfl (fun ls hl => ?_)
    refine lv_goto (tgt := 77) hx hb dX9_share_111 (by decide) ?_
    generalize (upd gf_97 40 1000000) = gf_98 at hP hD
    refine lv_iload hx hb dX9_share_77 (lv_at hl 0 rfl) ?_
    refine lv_iload hx hb dX9_share_79 (lv_at hl 1 rfl) ?_
    refine lv_icmp_gt (tgt := 114) hx hb dX9_share_81 (by decide) (fun h => absurd h (by decide)) (fun _ => ?_)
    refine lv_aload_n hx hb dX9_share_84 rfl (lv_at hl 3 rfl) ?_
    refine va_get (ci := 9) (v := .ref hf) (C := RX9) (T := TX9) (N := 11) hx hb htl inX9 hown hK hP 0 rfl rfl 8 (by decide) (htl _ fl_RX9_31) (fun _ h9 => h9) rfl dX9_share_85 ?_
    refine lv_iload hx hb dX9_share_88 (lv_at hl 2 rfl) ?_
    refine lv_bipush (v := 64) hx hb dX9_share_90 (by decide) ?_
    refine lv_imul hx hb dX9_share_92 ?_
    refine lv_topi (fun xv ex => ?_)
    obtain rfl : xv = 0 := ex.trans (by first | rfl | decide)
    refine lv_iload hx hb dX9_share_93 (lv_at hl 0 rfl) ?_
    refine lv_iadd hx hb dX9_share_95 ?_
    refine lv_topi (fun xv ex => ?_)
    obtain rfl : xv = 41 := ex.trans (by first | rfl | decide)
    refine lv_iload hx hb dX9_share_96 (lv_at hl 0 rfl) ?_
    refine lv_if_ne (tgt := 105) hx hb dX9_share_98 (by decide) (fun _ => ?_) (fun h => absurd h (by decide))
    refine lv_ldc hx hb hown (htl _ ct_RX9_68) dX9_share_105 ?_
    refine va_iast hx hb hK hP hD hS 4 0 rfl rfl (by unfold vp_in; decide) dX9_share_107 (fun H locs hP hD hS => ?_)
    have hP : va_P G vwCl [(h0, .inr (9, [f_h0_0, f_h0_1, f_h0_2, f_h0_3, f_h0_4, f_h0_5, .ref hd, f_h0_7, .ref hf, f_h0_9, f_h0_10])), (aW, .inr (10, [f_aW_0, .ref aC, f_aW_2, f_aW_3, f_aW_4, f_aW_5, f_aW_6])), (aC, .inr (1, [f_aC_0, f_aC_1, .int 0])), (hd, .inl (cs 0, 6, .inl g)), (hf, .inl (cs 0, 448, .inl (upd gf_98 41 1000000)))] H := hP
    have hD : va_D A [(h0, .inr (9, [f_h0_0, f_h0_1, f_h0_2, f_h0_3, f_h0_4, f_h0_5, .ref hd, f_h0_7, .ref hf, f_h0_9, f_h0_10])), (aW, .inr (10, [f_aW_0, .ref aC, f_aW_2, f_aW_3, f_aW_4, f_aW_5, f_aW_6])), (aC, .inr (1, [f_aC_0, f_aC_1, .int 0])), (hd, .inl (cs 0, 6, .inl g)), (hf, .inl (cs 0, 448, .inl (upd gf_98 41 1000000)))] := hD
    refine lv_iinc (v := 42) (lv' := [(8, .int 42), (7, .int 63), (6, .int 0), (0, .ref h0), (1, .ref aW), (2, .ref aA), (3, .long a), (5, .int (nI 6))]) hx hb dX9_share_108 hl (k := 0) rfl (by first | rfl | decide) (by decide) rfl (fun ls hl => ?_)
    refine lv_goto (tgt := 77) hx hb dX9_share_111 (by decide) ?_
    generalize (upd gf_98 41 1000000) = gf_99 at hP hD
    refine lv_iload hx hb dX9_share_77 (lv_at hl 0 rfl) ?_
    refine lv_iload hx hb dX9_share_79 (lv_at hl 1 rfl) ?_
    refine lv_icmp_gt (tgt := 114) hx hb dX9_share_81 (by decide) (fun h => absurd h (by decide)) (fun _ => ?_)
    refine lv_aload_n hx hb dX9_share_84 rfl (lv_at hl 3 rfl) ?_
    refine va_get (ci := 9) (v := .ref hf) (C := RX9) (T := TX9) (N := 11) hx hb htl inX9 hown hK hP 0 rfl rfl 8 (by decide) (htl _ fl_RX9_31) (fun _ h9 => h9) rfl dX9_share_85 ?_
    refine lv_iload hx hb dX9_share_88 (lv_at hl 2 rfl) ?_
    refine lv_bipush (v := 64) hx hb dX9_share_90 (by decide) ?_
    refine lv_imul hx hb dX9_share_92 ?_
    refine lv_topi (fun xv ex => ?_)
    obtain rfl : xv = 0 := ex.trans (by first | rfl | decide)
    refine lv_iload hx hb dX9_share_93 (lv_at hl 0 rfl) ?_
    refine lv_iadd hx hb dX9_share_95 ?_
    refine lv_topi (fun xv ex => ?_)
    obtain rfl : xv = 42 := ex.trans (by first | rfl | decide)
    refine lv_iload hx hb dX9_share_96 (lv_at hl 0 rfl) ?_
    refine lv_if_ne (tgt := 105) hx hb dX9_share_98 (by decide) (fun _ => ?_) (fun h => absurd h (by decide))
    refine lv_ldc hx hb hown (htl _ ct_RX9_68) dX9_share_105 ?_
    refine va_iast hx hb hK hP hD hS 4 0 rfl rfl (by unfold vp_in; decide) dX9_share_107 (fun H locs hP hD hS => ?_)
    have hP : va_P G vwCl [(h0, .inr (9, [f_h0_0, f_h0_1, f_h0_2, f_h0_3, f_h0_4, f_h0_5, .ref hd, f_h0_7, .ref hf, f_h0_9, f_h0_10])), (aW, .inr (10, [f_aW_0, .ref aC, f_aW_2, f_aW_3, f_aW_4, f_aW_5, f_aW_6])), (aC, .inr (1, [f_aC_0, f_aC_1, .int 0])), (hd, .inl (cs 0, 6, .inl g)), (hf, .inl (cs 0, 448, .inl (upd gf_99 42 1000000)))] H := hP
    have hD : va_D A [(h0, .inr (9, [f_h0_0, f_h0_1, f_h0_2, f_h0_3, f_h0_4, f_h0_5, .ref hd, f_h0_7, .ref hf, f_h0_9, f_h0_10])), (aW, .inr (10, [f_aW_0, .ref aC, f_aW_2, f_aW_3, f_aW_4, f_aW_5, f_aW_6])), (aC, .inr (1, [f_aC_0, f_aC_1, .int 0])), (hd, .inl (cs 0, 6, .inl g)), (hf, .inl (cs 0, 448, .inl (upd gf_99 42 1000000)))] := hD
    refine lv_iinc (v := 43) (lv' := [(8, .int 43), (7, .int 63), (6, .int 0), (0, .ref h0), (1, .ref aW), (2, .ref aA), (3, .long a), (5, .int (nI 6))]) hx hb dX9_share_108 hl (k := 0) rfl (by first | rfl | decide) (by decide) rfl (fun ls hl => ?_)
    refine lv_goto (tgt := 77) hx hb dX9_share_111 (by decide) ?_
    generalize (upd gf_99 42 1000000) = gf_100 at hP hD
    refine lv_iload hx hb dX9_share_77 (lv_at hl 0 rfl) ?_
    refine lv_iload hx hb dX9_share_79 (lv_at hl 1 rfl) ?_
    refine lv_icmp_gt (tgt := 114) hx hb dX9_share_81 (by decide) (fun h => absurd h (by decide)) (fun _ => ?_)
    refine lv_aload_n hx hb dX9_share_84 rfl (lv_at hl 3 rfl) ?_
    refine va_get (ci := 9) (v := .ref hf) (C := RX9) (T := TX9) (N := 11) hx hb htl inX9 hown hK hP 0 rfl rfl 8 (by decide) (htl _ fl_RX9_31) (fun _ h9 => h9) rfl dX9_share_85 ?_
    refine lv_iload hx hb dX9_share_88 (lv_at hl 2 rfl) ?_
    refine lv_bipush (v := 64) hx hb dX9_share_90 (by decide) ?_
    refine lv_imul hx hb dX9_share_92 ?_
    refine lv_topi (fun xv ex => ?_)
    obtain rfl : xv = 0 := ex.trans (by first | rfl | decide)
    refine lv_iload hx hb dX9_share_93 (lv_at hl 0 rfl) ?_
    refine lv_iadd hx hb dX9_share_95 ?_
    refine lv_topi (fun xv ex => ?_)
    obtain rfl : xv = 43 := ex.trans (by first | rfl | decide)
    refine lv_iload hx hb dX9_share_96 (lv_at hl 0 rfl) ?_
    refine lv_if_ne (tgt := 105) hx hb dX9_share_98 (by decide) (fun _ => ?_) (fun h => absurd h (by decide))
    refine lv_ldc hx hb hown (htl _ ct_RX9_68) dX9_share_105 ?_
    refine va_iast hx hb hK hP hD hS 4 0 rfl rfl (by unfold vp_in; decide) dX9_share_107 (fun H locs hP hD hS => ?_)
    have hP : va_P G vwCl [(h0, .inr (9, [f_h0_0, f_h0_1, f_h0_2, f_h0_3, f_h0_4, f_h0_5, .ref hd, f_h0_7, .ref hf, f_h0_9, f_h0_10])), (aW, .inr (10, [f_aW_0, .ref aC, f_aW_2, f_aW_3, f_aW_4, f_aW_5, f_aW_6])), (aC, .inr (1, [f_aC_0, f_aC_1, .int 0])), (hd, .inl (cs 0, 6, .inl g)), (hf, .inl (cs 0, 448, .inl (upd gf_100 43 1000000)))] H := hP
    have hD : va_D A [(h0, .inr (9, [f_h0_0, f_h0_1, f_h0_2, f_h0_3, f_h0_4, f_h0_5, .ref hd, f_h0_7, .ref hf, f_h0_9, f_h0_10])), (aW, .inr (10, [f_aW_0, .ref aC, f_aW_2, f_aW_3, f_aW_4, f_aW_5, f_aW_6])), (aC, .inr (1, [f_aC_0, f_aC_1, .int 0])), (hd, .inl (cs 0, 6, .inl g)), (hf, .inl (cs 0, 448, .inl (upd gf_100 43 1000000)))] := hD
    refine lv_iinc (v := 44) (lv' := [(8, .int 44), (7, .int 63), (6, .int 0), (0, .ref h0), (1, .ref aW), (2, .ref aA), (3, .long a), (5, .int (nI 6))]) hx hb dX9_share_108 hl (k := 0) rfl (by first | rfl | decide) (by decide) rfl (fun ls hl => ?_)
    refine lv_goto (tgt := 77) hx hb dX9_share_111 (by decide) ?_
    generalize (upd gf_100 43 1000000) = gf_101 at hP hD
    refine lv_iload hx hb dX9_share_77 (lv_at hl 0 rfl) ?_
    refine lv_iload hx hb dX9_share_79 (lv_at hl 1 rfl) ?_
    refine lv_icmp_gt (tgt := 114) hx hb dX9_share_81 (by decide) (fun h => absurd h (by decide)) (fun _ => ?_)
    refine lv_aload_n hx hb dX9_share_84 rfl (lv_at hl 3 rfl) ?_
    refine va_get (ci := 9) (v := .ref hf) (C := RX9) (T := TX9) (N := 11) hx hb htl inX9 hown hK hP 0 rfl rfl 8 (by decide) (htl _ fl_RX9_31) (fun _ h9 => h9) rfl dX9_share_85 ?_
    refine lv_iload hx hb dX9_share_88 (lv_at hl 2 rfl) ?_
    refine lv_bipush (v := 64) hx hb dX9_share_90 (by decide) ?_
    refine lv_imul hx hb dX9_share_92 ?_
    refine lv_topi (fun xv ex => ?_)
    obtain rfl : xv = 0 := ex.trans (by first | rfl | decide)
    refine lv_iload hx hb dX9_share_93 (lv_at hl 0 rfl) ?_
    refine lv_iadd hx hb dX9_share_95 ?_
    refine lv_topi (fun xv ex => ?_)
    obtain rfl : xv = 44 := ex.trans (by first | rfl | decide)
    refine lv_iload hx hb dX9_share_96 (lv_at hl 0 rfl) ?_
    refine lv_if_ne (tgt := 105) hx hb dX9_share_98 (by decide) (fun _ => ?_) (fun h => absurd h (by decide))
    refine lv_ldc hx hb hown (htl _ ct_RX9_68) dX9_share_105 ?_
    refine va_iast hx hb hK hP hD hS 4 0 rfl rfl (by unfold vp_in; decide) dX9_share_107 (fun H locs hP hD hS => ?_)
    have hP : va_P G vwCl [(h0, .inr (9, [f_h0_0, f_h0_1, f_h0_2, f_h0_3, f_h0_4, f_h0_5, .ref hd, f_h0_7, .ref hf, f_h0_9, f_h0_10])), (aW, .inr (10, [f_aW_0, .ref aC, f_aW_2, f_aW_3, f_aW_4, f_aW_5, f_aW_6])), (aC, .inr (1, [f_aC_0, f_aC_1, .int 0])), (hd, .inl (cs 0, 6, .inl g)), (hf, .inl (cs 0, 448, .inl (upd gf_101 44 1000000)))] H := hP
    have hD : va_D A [(h0, .inr (9, [f_h0_0, f_h0_1, f_h0_2, f_h0_3, f_h0_4, f_h0_5, .ref hd, f_h0_7, .ref hf, f_h0_9, f_h0_10])), (aW, .inr (10, [f_aW_0, .ref aC, f_aW_2, f_aW_3, f_aW_4, f_aW_5, f_aW_6])), (aC, .inr (1, [f_aC_0, f_aC_1, .int 0])), (hd, .inl (cs 0, 6, .inl g)), (hf, .inl (cs 0, 448, .inl (upd gf_101 44 1000000)))] := hD
    refine lv_iinc (v := 45) (lv' := [(8, .int 45), (7, .int 63), (6, .int 0), (0, .ref h0), (1, .ref aW), (2, .ref aA), (3, .long a), (5, .int (nI 6))]) hx hb dX9_share_108 hl (k := 0) rfl (by first | rfl | decide) (by decide) rfl (fun ls hl => ?_)
    refine lv_goto (tgt := 77) hx hb dX9_share_111 (by decide) ?_
    generalize (upd gf_101 44 1000000) = gf_102 at hP hD
    refine lv_iload hx hb dX9_share_77 (lv_at hl 0 rfl) ?_
    refine lv_iload hx hb dX9_share_79 (lv_at hl 1 rfl) ?_
    refine lv_icmp_gt (tgt := 114) hx hb dX9_share_81 (by decide) (fun h => absurd h (by decide)) (fun _ => ?_)
    refine lv_aload_n hx hb dX9_share_84 rfl (lv_at hl 3 rfl) ?_
    refine va_get (ci := 9) (v := .ref hf) (C := RX9) (T := TX9) (N := 11) hx hb htl inX9 hown hK hP 0 rfl rfl 8 (by decide) (htl _ fl_RX9_31) (fun _ h9 => h9) rfl dX9_share_85 ?_
    refine lv_iload hx hb dX9_share_88 (lv_at hl 2 rfl) ?_
    refine lv_bipush (v := 64) hx hb dX9_share_90 (by decide) ?_
    refine lv_imul hx hb dX9_share_92 ?_
    refine lv_topi (fun xv ex => ?_)
    obtain rfl : xv = 0 := ex.trans (by first | rfl | decide)
    refine lv_iload hx hb dX9_share_93 (lv_at hl 0 rfl) ?_
    refine lv_iadd hx hb dX9_share_95 ?_
    refine lv_topi (fun xv ex => ?_)
    obtain rfl : xv = 45 := ex.trans (by first | rfl | decide)
    refine lv_iload hx hb dX9_share_96 (lv_at hl 0 rfl) ?_
    refine lv_if_ne (tgt := 105) hx hb dX9_share_98 (by decide) (fun _ => ?_) (fun h => absurd h (by decide))
    refine lv_ldc hx hb hown (htl _ ct_RX9_68) dX9_share_105 ?_
    refine va_iast hx hb hK hP hD hS 4 0 rfl rfl (by unfold vp_in; decide) dX9_share_107 (fun H locs hP hD hS => ?_)
    have hP : va_P G vwCl [(h0, .inr (9, [f_h0_0, f_h0_1, f_h0_2, f_h0_3, f_h0_4, f_h0_5, .ref hd, f_h0_7, .ref hf, f_h0_9, f_h0_10])), (aW, .inr (10, [f_aW_0, .ref aC, f_aW_2, f_aW_3, f_aW_4, f_aW_5, f_aW_6])), (aC, .inr (1, [f_aC_0, f_aC_1, .int 0])), (hd, .inl (cs 0, 6, .inl g)), (hf, .inl (cs 0, 448, .inl (upd gf_102 45 1000000)))] H := hP
    have hD : va_D A [(h0, .inr (9, [f_h0_0, f_h0_1, f_h0_2, f_h0_3, f_h0_4, f_h0_5, .ref hd, f_h0_7, .ref hf, f_h0_9, f_h0_10])), (aW, .inr (10, [f_aW_0, .ref aC, f_aW_2, f_aW_3, f_aW_4, f_aW_5, f_aW_6])), (aC, .inr (1, [f_aC_0, f_aC_1, .int 0])), (hd, .inl (cs 0, 6, .inl g)), (hf, .inl (cs 0, 448, .inl (upd gf_102 45 1000000)))] := hD
    refine lv_iinc (v := 46) (lv' := [(8, .int 46), (7, .int 63), (6, .int 0), (0, .ref h0), (1, .ref aW), (2, .ref aA), (3, .long a), (5, .int (nI 6))]) hx hb dX9_share_108 hl (k := 0) rfl (by first | rfl | decide) (by decide) rfl (fun ls hl => ?_)
    refine lv_goto (tgt := 77) hx hb dX9_share_111 (by decide) ?_
    generalize (upd gf_102 45 1000000) = gf_103 at hP hD
    refine lv_iload hx hb dX9_share_77 (lv_at hl 0 rfl) ?_
    refine lv_iload hx hb dX9_share_79 (lv_at hl 1 rfl) ?_
    refine lv_icmp_gt (tgt := 114) hx hb dX9_share_81 (by decide) (fun h => absurd h (by decide)) (fun _ => ?_)
    refine lv_aload_n hx hb dX9_share_84 rfl (lv_at hl 3 rfl) ?_
    refine va_get (ci := 9) (v := .ref hf) (C := RX9) (T := TX9) (N := 11) hx hb htl inX9 hown hK hP 0 rfl rfl 8 (by decide) (htl _ fl_RX9_31) (fun _ h9 => h9) rfl dX9_share_85 ?_
    refine lv_iload hx hb dX9_share_88 (lv_at hl 2 rfl) ?_
    refine lv_bipush (v := 64) hx hb dX9_share_90 (by decide) ?_
    refine lv_imul hx hb dX9_share_92 ?_
    refine lv_topi (fun xv ex => ?_)
    obtain rfl : xv = 0 := ex.trans (by first | rfl | decide)
    refine lv_iload hx hb dX9_share_93 (lv_at hl 0 rfl) ?_
    refine lv_iadd hx hb dX9_share_95 ?_
    refine lv_topi (fun xv ex => ?_)
    obtain rfl : xv = 46 := ex.trans (by first | rfl | decide)
    refine lv_iload hx hb dX9_share_96 (lv_at hl 0 rfl) ?_
    refine lv_if_ne (tgt := 105) hx hb dX9_share_98 (by decide) (fun _ => ?_) (fun h => absurd h (by decide))
    refine lv_ldc hx hb hown (htl _ ct_RX9_68) dX9_share_105 ?_
    refine va_iast hx hb hK hP hD hS 4 0 rfl rfl (by unfold vp_in; decide) dX9_share_107 (fun H locs hP hD hS => ?_)
    have hP : va_P G vwCl [(h0, .inr (9, [f_h0_0, f_h0_1, f_h0_2, f_h0_3, f_h0_4, f_h0_5, .ref hd, f_h0_7, .ref hf, f_h0_9, f_h0_10])), (aW, .inr (10, [f_aW_0, .ref aC, f_aW_2, f_aW_3, f_aW_4, f_aW_5, f_aW_6])), (aC, .inr (1, [f_aC_0, f_aC_1, .int 0])), (hd, .inl (cs 0, 6, .inl g)), (hf, .inl (cs 0, 448, .inl (upd gf_103 46 1000000)))] H := hP
    have hD : va_D A [(h0, .inr (9, [f_h0_0, f_h0_1, f_h0_2, f_h0_3, f_h0_4, f_h0_5, .ref hd, f_h0_7, .ref hf, f_h0_9, f_h0_10])), (aW, .inr (10, [f_aW_0, .ref aC, f_aW_2, f_aW_3, f_aW_4, f_aW_5, f_aW_6])), (aC, .inr (1, [f_aC_0, f_aC_1, .int 0])), (hd, .inl (cs 0, 6, .inl g)), (hf, .inl (cs 0, 448, .inl (upd gf_103 46 1000000)))] := hD
    refine lv_iinc (v := 47) (lv' := [(8, .int 47), (7, .int 63), (6, .int 0), (0, .ref h0), (1, .ref aW), (2, .ref aA), (3, .long a), (5, .int (nI 6))]) hx hb dX9_share_108 hl (k := 0) rfl (by first | rfl | decide) (by decide) rfl (fun ls hl => ?_)
    refine lv_goto (tgt := 77) hx hb dX9_share_111 (by decide) ?_
    generalize (upd gf_103 46 1000000) = gf_104 at hP hD
    refine lv_iload hx hb dX9_share_77 (lv_at hl 0 rfl) ?_
    refine lv_iload hx hb dX9_share_79 (lv_at hl 1 rfl) ?_
    refine lv_icmp_gt (tgt := 114) hx hb dX9_share_81 (by decide) (fun h => absurd h (by decide)) (fun _ => ?_)
    refine lv_aload_n hx hb dX9_share_84 rfl (lv_at hl 3 rfl) ?_
    refine va_get (ci := 9) (v := .ref hf) (C := RX9) (T := TX9) (N := 11) hx hb htl inX9 hown hK hP 0 rfl rfl 8 (by decide) (htl _ fl_RX9_31) (fun _ h9 => h9) rfl dX9_share_85 ?_
    refine lv_iload hx hb dX9_share_88 (lv_at hl 2 rfl) ?_
    refine lv_bipush (v := 64) hx hb dX9_share_90 (by decide) ?_
    refine lv_imul hx hb dX9_share_92 ?_
    refine lv_topi (fun xv ex => ?_)
    obtain rfl : xv = 0 := ex.trans (by first | rfl | decide)
    refine lv_iload hx hb dX9_share_93 (lv_at hl 0 rfl) ?_
    refine lv_iadd hx hb dX9_share_95 ?_
    refine lv_topi (fun xv ex => ?_)
    obtain rfl : xv = 47 := ex.trans (by first | rfl | decide)
    refine lv_iload hx hb dX9_share_96 (lv_at hl 0 rfl) ?_
    refine lv_if_ne (tgt := 105) hx hb dX9_share_98 (by decide) (fun _ => ?_) (fun h => absurd h (by decide))
    refine lv_ldc hx hb hown (htl _ ct_RX9_68) dX9_share_105 ?_
    refine va_iast hx hb hK hP hD hS 4 0 rfl rfl (by unfold vp_in; decide) dX9_share_107 (fun H locs hP hD hS => ?_)
    have hP : va_P G vwCl [(h0, .inr (9, [f_h0_0, f_h0_1, f_h0_2, f_h0_3, f_h0_4, f_h0_5, .ref hd, f_h0_7, .ref hf, f_h0_9, f_h0_10])), (aW, .inr (10, [f_aW_0, .ref aC, f_aW_2, f_aW_3, f_aW_4, f_aW_5, f_aW_6])), (aC, .inr (1, [f_aC_0, f_aC_1, .int 0])), (hd, .inl (cs 0, 6, .inl g)), (hf, .inl (cs 0, 448, .inl (upd gf_104 47 1000000)))] H := hP
    have hD : va_D A [(h0, .inr (9, [f_h0_0, f_h0_1, f_h0_2, f_h0_3, f_h0_4, f_h0_5, .ref hd, f_h0_7, .ref hf, f_h0_9, f_h0_10])), (aW, .inr (10, [f_aW_0, .ref aC, f_aW_2, f_aW_3, f_aW_4, f_aW_5, f_aW_6])), (aC, .inr (1, [f_aC_0, f_aC_1, .int 0])), (hd, .inl (cs 0, 6, .inl g)), (hf, .inl (cs 0, 448, .inl (upd gf_104 47 1000000)))] := hD
    refine lv_iinc (v := 48) (lv' := [(8, .int 48), (7, .int 63), (6, .int 0), (0, .ref h0), (1, .ref aW), (2, .ref aA), (3, .long a), (5, .int (nI 6))]) hx hb dX9_share_108 hl (k := 0) rfl (by first | rfl | decide) (by decide) rfl (fun ls hl => ?_)
    refine lv_goto (tgt := 77) hx hb dX9_share_111 (by decide) ?_
    generalize (upd gf_104 47 1000000) = gf_105 at hP hD
    refine lv_iload hx hb dX9_share_77 (lv_at hl 0 rfl) ?_
    refine lv_iload hx hb dX9_share_79 (lv_at hl 1 rfl) ?_
    refine lv_icmp_gt (tgt := 114) hx hb dX9_share_81 (by decide) (fun h => absurd h (by decide)) (fun _ => ?_)
    refine lv_aload_n hx hb dX9_share_84 rfl (lv_at hl 3 rfl) ?_
    refine va_get (ci := 9) (v := .ref hf) (C := RX9) (T := TX9) (N := 11) hx hb htl inX9 hown hK hP 0 rfl rfl 8 (by decide) (htl _ fl_RX9_31) (fun _ h9 => h9) rfl dX9_share_85 ?_
    refine lv_iload hx hb dX9_share_88 (lv_at hl 2 rfl) ?_
    refine lv_bipush (v := 64) hx hb dX9_share_90 (by decide) ?_
    refine lv_imul hx hb dX9_share_92 ?_
    refine lv_topi (fun xv ex => ?_)
    obtain rfl : xv = 0 := ex.trans (by first | rfl | decide)
    refine lv_iload hx hb dX9_share_93 (lv_at hl 0 rfl) ?_
    refine lv_iadd hx hb dX9_share_95 ?_
    refine lv_topi (fun xv ex => ?_)
    obtain rfl : xv = 48 := ex.trans (by first | rfl | decide)
    refine lv_iload hx hb dX9_share_96 (lv_at hl 0 rfl) ?_
    refine lv_if_ne (tgt := 105) hx hb dX9_share_98 (by decide) (fun _ => ?_) (fun h => absurd h (by decide))
    refine lv_ldc hx hb hown (htl _ ct_RX9_68) dX9_share_105 ?_
    refine va_iast hx hb hK hP hD hS 4 0 rfl rfl (by unfold vp_in; decide) dX9_share_107 (fun H locs hP hD hS => ?_)
    have hP : va_P G vwCl [(h0, .inr (9, [f_h0_0, f_h0_1, f_h0_2, f_h0_3, f_h0_4, f_h0_5, .ref hd, f_h0_7, .ref hf, f_h0_9, f_h0_10])), (aW, .inr (10, [f_aW_0, .ref aC, f_aW_2, f_aW_3, f_aW_4, f_aW_5, f_aW_6])), (aC, .inr (1, [f_aC_0, f_aC_1, .int 0])), (hd, .inl (cs 0, 6, .inl g)), (hf, .inl (cs 0, 448, .inl (upd gf_105 48 1000000)))] H := hP
    have hD : va_D A [(h0, .inr (9, [f_h0_0, f_h0_1, f_h0_2, f_h0_3, f_h0_4, f_h0_5, .ref hd, f_h0_7, .ref hf, f_h0_9, f_h0_10])), (aW, .inr (10, [f_aW_0, .ref aC, f_aW_2, f_aW_3, f_aW_4, f_aW_5, f_aW_6])), (aC, .inr (1, [f_aC_0, f_aC_1, .int 0])), (hd, .inl (cs 0, 6, .inl g)), (hf, .inl (cs 0, 448, .inl (upd gf_105 48 1000000)))] := hD
    refine lv_iinc (v := 49) (lv' := [(8, .int 49), (7, .int 63), (6, .int 0), (0, .ref h0), (1, .ref aW), (2, .ref aA), (3, .long a), (5, .int (nI 6))]) hx hb dX9_share_108 hl (k := 0) rfl (by first | rfl | decide) (by decide) rfl (fun ls hl => ?_)
    refine lv_goto (tgt := 77) hx hb dX9_share_111 (by decide) ?_
    generalize (upd gf_105 48 1000000) = gf_106 at hP hD
    refine lv_iload hx hb dX9_share_77 (lv_at hl 0 rfl) ?_
    refine lv_iload hx hb dX9_share_79 (lv_at hl 1 rfl) ?_
    refine lv_icmp_gt (tgt := 114) hx hb dX9_share_81 (by decide) (fun h => absurd h (by decide)) (fun _ => ?_)
    refine lv_aload_n hx hb dX9_share_84 rfl (lv_at hl 3 rfl) ?_
    refine va_get (ci := 9) (v := .ref hf) (C := RX9) (T := TX9) (N := 11) hx hb htl inX9 hown hK hP 0 rfl rfl 8 (by decide) (htl _ fl_RX9_31) (fun _ h9 => h9) rfl dX9_share_85 ?_
    refine lv_iload hx hb dX9_share_88 (lv_at hl 2 rfl) ?_
    refine lv_bipush (v := 64) hx hb dX9_share_90 (by decide) ?_
    refine lv_imul hx hb dX9_share_92 ?_
    refine lv_topi (fun xv ex => ?_)
    obtain rfl : xv = 0 := ex.trans (by first | rfl | decide)
    refine lv_iload hx hb dX9_share_93 (lv_at hl 0 rfl) ?_
    refine lv_iadd hx hb dX9_share_95 ?_
    refine lv_topi (fun xv ex => ?_)
    obtain rfl : xv = 49 := ex.trans (by first | rfl | decide)
    refine lv_iload hx hb dX9_share_96 (lv_at hl 0 rfl) ?_
    refine lv_if_ne (tgt := 105) hx hb dX9_share_98 (by decide) (fun _ => ?_) (fun h => absurd h (by decide))
    refine lv_ldc hx hb hown (htl _ ct_RX9_68) dX9_share_105 ?_
    refine va_iast hx hb hK hP hD hS 4 0 rfl rfl (by unfold vp_in; decide) dX9_share_107 (fun H locs hP hD hS => ?_)
    have hP : va_P G vwCl [(h0, .inr (9, [f_h0_0, f_h0_1, f_h0_2, f_h0_3, f_h0_4, f_h0_5, .ref hd, f_h0_7, .ref hf, f_h0_9, f_h0_10])), (aW, .inr (10, [f_aW_0, .ref aC, f_aW_2, f_aW_3, f_aW_4, f_aW_5, f_aW_6])), (aC, .inr (1, [f_aC_0, f_aC_1, .int 0])), (hd, .inl (cs 0, 6, .inl g)), (hf, .inl (cs 0, 448, .inl (upd gf_106 49 1000000)))] H := hP
    have hD : va_D A [(h0, .inr (9, [f_h0_0, f_h0_1, f_h0_2, f_h0_3, f_h0_4, f_h0_5, .ref hd, f_h0_7, .ref hf, f_h0_9, f_h0_10])), (aW, .inr (10, [f_aW_0, .ref aC, f_aW_2, f_aW_3, f_aW_4, f_aW_5, f_aW_6])), (aC, .inr (1, [f_aC_0, f_aC_1, .int 0])), (hd, .inl (cs 0, 6, .inl g)), (hf, .inl (cs 0, 448, .inl (upd gf_106 49 1000000)))] := hD
    refine lv_iinc (v := 50) (lv' := [(8, .int 50), (7, .int 63), (6, .int 0), (0, .ref h0), (1, .ref aW), (2, .ref aA), (3, .long a), (5, .int (nI 6))]) hx hb dX9_share_108 hl (k := 0) rfl (by first | rfl | decide) (by decide) rfl (fun ls hl => ?_)
    refine lv_goto (tgt := 77) hx hb dX9_share_111 (by decide) ?_
    generalize (upd gf_106 49 1000000) = gf_107 at hP hD
    refine lv_iload hx hb dX9_share_77 (lv_at hl 0 rfl) ?_
    refine lv_iload hx hb dX9_share_79 (lv_at hl 1 rfl) ?_
    refine lv_icmp_gt (tgt := 114) hx hb dX9_share_81 (by decide) (fun h => absurd h (by decide)) (fun _ => ?_)
    refine lv_aload_n hx hb dX9_share_84 rfl (lv_at hl 3 rfl) ?_
    refine va_get (ci := 9) (v := .ref hf) (C := RX9) (T := TX9) (N := 11) hx hb htl inX9 hown hK hP 0 rfl rfl 8 (by decide) (htl _ fl_RX9_31) (fun _ h9 => h9) rfl dX9_share_85 ?_
    refine lv_iload hx hb dX9_share_88 (lv_at hl 2 rfl) ?_
    refine lv_bipush (v := 64) hx hb dX9_share_90 (by decide) ?_
    refine lv_imul hx hb dX9_share_92 ?_
    refine lv_topi (fun xv ex => ?_)
    obtain rfl : xv = 0 := ex.trans (by first | rfl | decide)
    refine lv_iload hx hb dX9_share_93 (lv_at hl 0 rfl) ?_
    refine lv_iadd hx hb dX9_share_95 ?_
    refine lv_topi (fun xv ex => ?_)
    obtain rfl : xv = 50 := ex.trans (by first | rfl | decide)
    refine lv_iload hx hb dX9_share_96 (lv_at hl 0 rfl) ?_
    refine lv_if_ne (tgt := 105) hx hb dX9_share_98 (by decide) (fun _ => ?_) (fun h => absurd h (by decide))
    refine lv_ldc hx hb hown (htl _ ct_RX9_68) dX9_share_105 ?_
    refine va_iast hx hb hK hP hD hS 4 0 rfl rfl (by unfold vp_in; decide) dX9_share_107 (fun H locs hP hD hS => ?_)
    have hP : va_P G vwCl [(h0, .inr (9, [f_h0_0, f_h0_1, f_h0_2, f_h0_3, f_h0_4, f_h0_5, .ref hd, f_h0_7, .ref hf, f_h0_9, f_h0_10])), (aW, .inr (10, [f_aW_0, .ref aC, f_aW_2, f_aW_3, f_aW_4, f_aW_5, f_aW_6])), (aC, .inr (1, [f_aC_0, f_aC_1, .int 0])), (hd, .inl (cs 0, 6, .inl g)), (hf, .inl (cs 0, 448, .inl (upd gf_107 50 1000000)))] H := hP
    have hD : va_D A [(h0, .inr (9, [f_h0_0, f_h0_1, f_h0_2, f_h0_3, f_h0_4, f_h0_5, .ref hd, f_h0_7, .ref hf, f_h0_9, f_h0_10])), (aW, .inr (10, [f_aW_0, .ref aC, f_aW_2, f_aW_3, f_aW_4, f_aW_5, f_aW_6])), (aC, .inr (1, [f_aC_0, f_aC_1, .int 0])), (hd, .inl (cs 0, 6, .inl g)), (hf, .inl (cs 0, 448, .inl (upd gf_107 50 1000000)))] := hD
    refine lv_iinc (v := 51) (lv' := [(8, .int 51), (7, .int 63), (6, .int 0), (0, .ref h0), (1, .ref aW), (2, .ref aA), (3, .long a), (5, .int (nI 6))]) hx hb dX9_share_108 hl (k := 0) rfl (by first | rfl | decide) (by decide) rfl (fun ls hl => ?_)
    refine lv_goto (tgt := 77) hx hb dX9_share_111 (by decide) ?_
    generalize (upd gf_107 50 1000000) = gf_108 at hP hD
    refine lv_iload hx hb dX9_share_77 (lv_at hl 0 rfl) ?_
    refine lv_iload hx hb dX9_share_79 (lv_at hl 1 rfl) ?_
    refine lv_icmp_gt (tgt := 114) hx hb dX9_share_81 (by decide) (fun h => absurd h (by decide)) (fun _ => ?_)
    refine lv_aload_n hx hb dX9_share_84 rfl (lv_at hl 3 rfl) ?_
    refine va_get (ci := 9) (v := .ref hf) (C := RX9) (T := TX9) (N := 11) hx hb htl inX9 hown hK hP 0 rfl rfl 8 (by decide) (htl _ fl_RX9_31) (fun _ h9 => h9) rfl dX9_share_85 ?_
    refine lv_iload hx hb dX9_share_88 (lv_at hl 2 rfl) ?_
    refine lv_bipush (v := 64) hx hb dX9_share_90 (by decide) ?_
    refine lv_imul hx hb dX9_share_92 ?_
    refine lv_topi (fun xv ex => ?_)
    obtain rfl : xv = 0 := ex.trans (by first | rfl | decide)
    refine lv_iload hx hb dX9_share_93 (lv_at hl 0 rfl) ?_
    refine lv_iadd hx hb dX9_share_95 ?_
    refine lv_topi (fun xv ex => ?_)
    obtain rfl : xv = 51 := ex.trans (by first | rfl | decide)
    refine lv_iload hx hb dX9_share_96 (lv_at hl 0 rfl) ?_
    refine lv_if_ne (tgt := 105) hx hb dX9_share_98 (by decide) (fun _ => ?_) (fun h => absurd h (by decide))
    refine lv_ldc hx hb hown (htl _ ct_RX9_68) dX9_share_105 ?_
    refine va_iast hx hb hK hP hD hS 4 0 rfl rfl (by unfold vp_in; decide) dX9_share_107 (fun H locs hP hD hS => ?_)
    have hP : va_P G vwCl [(h0, .inr (9, [f_h0_0, f_h0_1, f_h0_2, f_h0_3, f_h0_4, f_h0_5, .ref hd, f_h0_7, .ref hf, f_h0_9, f_h0_10])), (aW, .inr (10, [f_aW_0, .ref aC, f_aW_2, f_aW_3, f_aW_4, f_aW_5, f_aW_6])), (aC, .inr (1, [f_aC_0, f_aC_1, .int 0])), (hd, .inl (cs 0, 6, .inl g)), (hf, .inl (cs 0, 448, .inl (upd gf_108 51 1000000)))] H := hP
    have hD : va_D A [(h0, .inr (9, [f_h0_0, f_h0_1, f_h0_2, f_h0_3, f_h0_4, f_h0_5, .ref hd, f_h0_7, .ref hf, f_h0_9, f_h0_10])), (aW, .inr (10, [f_aW_0, .ref aC, f_aW_2, f_aW_3, f_aW_4, f_aW_5, f_aW_6])), (aC, .inr (1, [f_aC_0, f_aC_1, .int 0])), (hd, .inl (cs 0, 6, .inl g)), (hf, .inl (cs 0, 448, .inl (upd gf_108 51 1000000)))] := hD
    refine lv_iinc (v := 52) (lv' := [(8, .int 52), (7, .int 63), (6, .int 0), (0, .ref h0), (1, .ref aW), (2, .ref aA), (3, .long a), (5, .int (nI 6))]) hx hb dX9_share_108 hl (k := 0) rfl (by first | rfl | decide) (by decide) rfl (fun ls hl => ?_)
    refine lv_goto (tgt := 77) hx hb dX9_share_111 (by decide) ?_
    generalize (upd gf_108 51 1000000) = gf_109 at hP hD
    refine lv_iload hx hb dX9_share_77 (lv_at hl 0 rfl) ?_
    refine lv_iload hx hb dX9_share_79 (lv_at hl 1 rfl) ?_
    refine lv_icmp_gt (tgt := 114) hx hb dX9_share_81 (by decide) (fun h => absurd h (by decide)) (fun _ => ?_)
    refine lv_aload_n hx hb dX9_share_84 rfl (lv_at hl 3 rfl) ?_
    refine va_get (ci := 9) (v := .ref hf) (C := RX9) (T := TX9) (N := 11) hx hb htl inX9 hown hK hP 0 rfl rfl 8 (by decide) (htl _ fl_RX9_31) (fun _ h9 => h9) rfl dX9_share_85 ?_
    refine lv_iload hx hb dX9_share_88 (lv_at hl 2 rfl) ?_
    refine lv_bipush (v := 64) hx hb dX9_share_90 (by decide) ?_
    refine lv_imul hx hb dX9_share_92 ?_
    refine lv_topi (fun xv ex => ?_)
    obtain rfl : xv = 0 := ex.trans (by first | rfl | decide)
    refine lv_iload hx hb dX9_share_93 (lv_at hl 0 rfl) ?_
    refine lv_iadd hx hb dX9_share_95 ?_
    refine lv_topi (fun xv ex => ?_)
    obtain rfl : xv = 52 := ex.trans (by first | rfl | decide)
    refine lv_iload hx hb dX9_share_96 (lv_at hl 0 rfl) ?_
    refine lv_if_ne (tgt := 105) hx hb dX9_share_98 (by decide) (fun _ => ?_) (fun h => absurd h (by decide))
    refine lv_ldc hx hb hown (htl _ ct_RX9_68) dX9_share_105 ?_
    refine va_iast hx hb hK hP hD hS 4 0 rfl rfl (by unfold vp_in; decide) dX9_share_107 (fun H locs hP hD hS => ?_)
    have hP : va_P G vwCl [(h0, .inr (9, [f_h0_0, f_h0_1, f_h0_2, f_h0_3, f_h0_4, f_h0_5, .ref hd, f_h0_7, .ref hf, f_h0_9, f_h0_10])), (aW, .inr (10, [f_aW_0, .ref aC, f_aW_2, f_aW_3, f_aW_4, f_aW_5, f_aW_6])), (aC, .inr (1, [f_aC_0, f_aC_1, .int 0])), (hd, .inl (cs 0, 6, .inl g)), (hf, .inl (cs 0, 448, .inl (upd gf_109 52 1000000)))] H := hP
    have hD : va_D A [(h0, .inr (9, [f_h0_0, f_h0_1, f_h0_2, f_h0_3, f_h0_4, f_h0_5, .ref hd, f_h0_7, .ref hf, f_h0_9, f_h0_10])), (aW, .inr (10, [f_aW_0, .ref aC, f_aW_2, f_aW_3, f_aW_4, f_aW_5, f_aW_6])), (aC, .inr (1, [f_aC_0, f_aC_1, .int 0])), (hd, .inl (cs 0, 6, .inl g)), (hf, .inl (cs 0, 448, .inl (upd gf_109 52 1000000)))] := hD
    refine lv_iinc (v := 53) (lv' := [(8, .int 53), (7, .int 63), (6, .int 0), (0, .ref h0), (1, .ref aW), (2, .ref aA), (3, .long a), (5, .int (nI 6))]) hx hb dX9_share_108 hl (k := 0) rfl (by first | rfl | decide) (by decide) rfl (fun ls hl => ?_)
    refine lv_goto (tgt := 77) hx hb dX9_share_111 (by decide) ?_
    generalize (upd gf_109 52 1000000) = gf_110 at hP hD
    refine lv_iload hx hb dX9_share_77 (lv_at hl 0 rfl) ?_
    refine lv_iload hx hb dX9_share_79 (lv_at hl 1 rfl) ?_
    refine lv_icmp_gt (tgt := 114) hx hb dX9_share_81 (by decide) (fun h => absurd h (by decide)) (fun _ => ?_)
    refine lv_aload_n hx hb dX9_share_84 rfl (lv_at hl 3 rfl) ?_
    refine va_get (ci := 9) (v := .ref hf) (C := RX9) (T := TX9) (N := 11) hx hb htl inX9 hown hK hP 0 rfl rfl 8 (by decide) (htl _ fl_RX9_31) (fun _ h9 => h9) rfl dX9_share_85 ?_
    refine lv_iload hx hb dX9_share_88 (lv_at hl 2 rfl) ?_
    refine lv_bipush (v := 64) hx hb dX9_share_90 (by decide) ?_
    refine lv_imul hx hb dX9_share_92 ?_
    refine lv_topi (fun xv ex => ?_)
    obtain rfl : xv = 0 := ex.trans (by first | rfl | decide)
    refine lv_iload hx hb dX9_share_93 (lv_at hl 0 rfl) ?_
    refine lv_iadd hx hb dX9_share_95 ?_
    refine lv_topi (fun xv ex => ?_)
    obtain rfl : xv = 53 := ex.trans (by first | rfl | decide)
    refine lv_iload hx hb dX9_share_96 (lv_at hl 0 rfl) ?_
    refine lv_if_ne (tgt := 105) hx hb dX9_share_98 (by decide) (fun _ => ?_) (fun h => absurd h (by decide))
    refine lv_ldc hx hb hown (htl _ ct_RX9_68) dX9_share_105 ?_
    refine va_iast hx hb hK hP hD hS 4 0 rfl rfl (by unfold vp_in; decide) dX9_share_107 (fun H locs hP hD hS => ?_)
    have hP : va_P G vwCl [(h0, .inr (9, [f_h0_0, f_h0_1, f_h0_2, f_h0_3, f_h0_4, f_h0_5, .ref hd, f_h0_7, .ref hf, f_h0_9, f_h0_10])), (aW, .inr (10, [f_aW_0, .ref aC, f_aW_2, f_aW_3, f_aW_4, f_aW_5, f_aW_6])), (aC, .inr (1, [f_aC_0, f_aC_1, .int 0])), (hd, .inl (cs 0, 6, .inl g)), (hf, .inl (cs 0, 448, .inl (upd gf_110 53 1000000)))] H := hP
    have hD : va_D A [(h0, .inr (9, [f_h0_0, f_h0_1, f_h0_2, f_h0_3, f_h0_4, f_h0_5, .ref hd, f_h0_7, .ref hf, f_h0_9, f_h0_10])), (aW, .inr (10, [f_aW_0, .ref aC, f_aW_2, f_aW_3, f_aW_4, f_aW_5, f_aW_6])), (aC, .inr (1, [f_aC_0, f_aC_1, .int 0])), (hd, .inl (cs 0, 6, .inl g)), (hf, .inl (cs 0, 448, .inl (upd gf_110 53 1000000)))] := hD
    refine lv_iinc (v := 54) (lv' := [(8, .int 54), (7, .int 63), (6, .int 0), (0, .ref h0), (1, .ref aW), (2, .ref aA), (3, .long a), (5, .int (nI 6))]) hx hb dX9_share_108 hl (k := 0) rfl (by first | rfl | decide) (by decide) rfl (fun ls hl => ?_)
    refine lv_goto (tgt := 77) hx hb dX9_share_111 (by decide) ?_
    generalize (upd gf_110 53 1000000) = gf_111 at hP hD
    refine lv_iload hx hb dX9_share_77 (lv_at hl 0 rfl) ?_
    refine lv_iload hx hb dX9_share_79 (lv_at hl 1 rfl) ?_
    refine lv_icmp_gt (tgt := 114) hx hb dX9_share_81 (by decide) (fun h => absurd h (by decide)) (fun _ => ?_)
    refine lv_aload_n hx hb dX9_share_84 rfl (lv_at hl 3 rfl) ?_
    refine va_get (ci := 9) (v := .ref hf) (C := RX9) (T := TX9) (N := 11) hx hb htl inX9 hown hK hP 0 rfl rfl 8 (by decide) (htl _ fl_RX9_31) (fun _ h9 => h9) rfl dX9_share_85 ?_
    refine lv_iload hx hb dX9_share_88 (lv_at hl 2 rfl) ?_
    refine lv_bipush (v := 64) hx hb dX9_share_90 (by decide) ?_
    refine lv_imul hx hb dX9_share_92 ?_
    refine lv_topi (fun xv ex => ?_)
    obtain rfl : xv = 0 := ex.trans (by first | rfl | decide)
    refine lv_iload hx hb dX9_share_93 (lv_at hl 0 rfl) ?_
    refine lv_iadd hx hb dX9_share_95 ?_
    refine lv_topi (fun xv ex => ?_)
    obtain rfl : xv = 54 := ex.trans (by first | rfl | decide)
    refine lv_iload hx hb dX9_share_96 (lv_at hl 0 rfl) ?_
    refine lv_if_ne (tgt := 105) hx hb dX9_share_98 (by decide) (fun _ => ?_) (fun h => absurd h (by decide))
    refine lv_ldc hx hb hown (htl _ ct_RX9_68) dX9_share_105 ?_
    refine va_iast hx hb hK hP hD hS 4 0 rfl rfl (by unfold vp_in; decide) dX9_share_107 (fun H locs hP hD hS => ?_)
    have hP : va_P G vwCl [(h0, .inr (9, [f_h0_0, f_h0_1, f_h0_2, f_h0_3, f_h0_4, f_h0_5, .ref hd, f_h0_7, .ref hf, f_h0_9, f_h0_10])), (aW, .inr (10, [f_aW_0, .ref aC, f_aW_2, f_aW_3, f_aW_4, f_aW_5, f_aW_6])), (aC, .inr (1, [f_aC_0, f_aC_1, .int 0])), (hd, .inl (cs 0, 6, .inl g)), (hf, .inl (cs 0, 448, .inl (upd gf_111 54 1000000)))] H := hP
    have hD : va_D A [(h0, .inr (9, [f_h0_0, f_h0_1, f_h0_2, f_h0_3, f_h0_4, f_h0_5, .ref hd, f_h0_7, .ref hf, f_h0_9, f_h0_10])), (aW, .inr (10, [f_aW_0, .ref aC, f_aW_2, f_aW_3, f_aW_4, f_aW_5, f_aW_6])), (aC, .inr (1, [f_aC_0, f_aC_1, .int 0])), (hd, .inl (cs 0, 6, .inl g)), (hf, .inl (cs 0, 448, .inl (upd gf_111 54 1000000)))] := hD
    refine lv_iinc (v := 55) (lv' := [(8, .int 55), (7, .int 63), (6, .int 0), (0, .ref h0), (1, .ref aW), (2, .ref aA), (3, .long a), (5, .int (nI 6))]) hx hb dX9_share_108 hl (k := 0) rfl (by first | rfl | decide) (by decide) rfl (fun ls hl => ?_)
    refine lv_goto (tgt := 77) hx hb dX9_share_111 (by decide) ?_
    generalize (upd gf_111 54 1000000) = gf_112 at hP hD
    refine lv_iload hx hb dX9_share_77 (lv_at hl 0 rfl) ?_
    refine lv_iload hx hb dX9_share_79 (lv_at hl 1 rfl) ?_
    refine lv_icmp_gt (tgt := 114) hx hb dX9_share_81 (by decide) (fun h => absurd h (by decide)) (fun _ => ?_)
    refine lv_aload_n hx hb dX9_share_84 rfl (lv_at hl 3 rfl) ?_
    refine va_get (ci := 9) (v := .ref hf) (C := RX9) (T := TX9) (N := 11) hx hb htl inX9 hown hK hP 0 rfl rfl 8 (by decide) (htl _ fl_RX9_31) (fun _ h9 => h9) rfl dX9_share_85 ?_
    refine lv_iload hx hb dX9_share_88 (lv_at hl 2 rfl) ?_
    refine lv_bipush (v := 64) hx hb dX9_share_90 (by decide) ?_
    refine lv_imul hx hb dX9_share_92 ?_
    refine lv_topi (fun xv ex => ?_)
    obtain rfl : xv = 0 := ex.trans (by first | rfl | decide)
    refine lv_iload hx hb dX9_share_93 (lv_at hl 0 rfl) ?_
    refine lv_iadd hx hb dX9_share_95 ?_
    refine lv_topi (fun xv ex => ?_)
    obtain rfl : xv = 55 := ex.trans (by first | rfl | decide)
    refine lv_iload hx hb dX9_share_96 (lv_at hl 0 rfl) ?_
    refine lv_if_ne (tgt := 105) hx hb dX9_share_98 (by decide) (fun _ => ?_) (fun h => absurd h (by decide))
    refine lv_ldc hx hb hown (htl _ ct_RX9_68) dX9_share_105 ?_
    refine va_iast hx hb hK hP hD hS 4 0 rfl rfl (by unfold vp_in; decide) dX9_share_107 (fun H locs hP hD hS => ?_)
    have hP : va_P G vwCl [(h0, .inr (9, [f_h0_0, f_h0_1, f_h0_2, f_h0_3, f_h0_4, f_h0_5, .ref hd, f_h0_7, .ref hf, f_h0_9, f_h0_10])), (aW, .inr (10, [f_aW_0, .ref aC, f_aW_2, f_aW_3, f_aW_4, f_aW_5, f_aW_6])), (aC, .inr (1, [f_aC_0, f_aC_1, .int 0])), (hd, .inl (cs 0, 6, .inl g)), (hf, .inl (cs 0, 448, .inl (upd gf_112 55 1000000)))] H := hP
    have hD : va_D A [(h0, .inr (9, [f_h0_0, f_h0_1, f_h0_2, f_h0_3, f_h0_4, f_h0_5, .ref hd, f_h0_7, .ref hf, f_h0_9, f_h0_10])), (aW, .inr (10, [f_aW_0, .ref aC, f_aW_2, f_aW_3, f_aW_4, f_aW_5, f_aW_6])), (aC, .inr (1, [f_aC_0, f_aC_1, .int 0])), (hd, .inl (cs 0, 6, .inl g)), (hf, .inl (cs 0, 448, .inl (upd gf_112 55 1000000)))] := hD
    refine lv_iinc (v := 56) (lv' := [(8, .int 56), (7, .int 63), (6, .int 0), (0, .ref h0), (1, .ref aW), (2, .ref aA), (3, .long a), (5, .int (nI 6))]) hx hb dX9_share_108 hl (k := 0) rfl (by first | rfl | decide) (by decide) rfl (fun ls hl => ?_)
    refine lv_goto (tgt := 77) hx hb dX9_share_111 (by decide) ?_
    generalize (upd gf_112 55 1000000) = gf_113 at hP hD
    refine lv_iload hx hb dX9_share_77 (lv_at hl 0 rfl) ?_
    refine lv_iload hx hb dX9_share_79 (lv_at hl 1 rfl) ?_
    refine lv_icmp_gt (tgt := 114) hx hb dX9_share_81 (by decide) (fun h => absurd h (by decide)) (fun _ => ?_)
    refine lv_aload_n hx hb dX9_share_84 rfl (lv_at hl 3 rfl) ?_
    refine va_get (ci := 9) (v := .ref hf) (C := RX9) (T := TX9) (N := 11) hx hb htl inX9 hown hK hP 0 rfl rfl 8 (by decide) (htl _ fl_RX9_31) (fun _ h9 => h9) rfl dX9_share_85 ?_
    refine lv_iload hx hb dX9_share_88 (lv_at hl 2 rfl) ?_
    refine lv_bipush (v := 64) hx hb dX9_share_90 (by decide) ?_
    refine lv_imul hx hb dX9_share_92 ?_
    refine lv_topi (fun xv ex => ?_)
    obtain rfl : xv = 0 := ex.trans (by first | rfl | decide)
    refine lv_iload hx hb dX9_share_93 (lv_at hl 0 rfl) ?_
    refine lv_iadd hx hb dX9_share_95 ?_
    refine lv_topi (fun xv ex => ?_)
    obtain rfl : xv = 56 := ex.trans (by first | rfl | decide)
    refine lv_iload hx hb dX9_share_96 (lv_at hl 0 rfl) ?_
    refine lv_if_ne (tgt := 105) hx hb dX9_share_98 (by decide) (fun _ => ?_) (fun h => absurd h (by decide))
    refine lv_ldc hx hb hown (htl _ ct_RX9_68) dX9_share_105 ?_
    refine va_iast hx hb hK hP hD hS 4 0 rfl rfl (by unfold vp_in; decide) dX9_share_107 (fun H locs hP hD hS => ?_)
    have hP : va_P G vwCl [(h0, .inr (9, [f_h0_0, f_h0_1, f_h0_2, f_h0_3, f_h0_4, f_h0_5, .ref hd, f_h0_7, .ref hf, f_h0_9, f_h0_10])), (aW, .inr (10, [f_aW_0, .ref aC, f_aW_2, f_aW_3, f_aW_4, f_aW_5, f_aW_6])), (aC, .inr (1, [f_aC_0, f_aC_1, .int 0])), (hd, .inl (cs 0, 6, .inl g)), (hf, .inl (cs 0, 448, .inl (upd gf_113 56 1000000)))] H := hP
    have hD : va_D A [(h0, .inr (9, [f_h0_0, f_h0_1, f_h0_2, f_h0_3, f_h0_4, f_h0_5, .ref hd, f_h0_7, .ref hf, f_h0_9, f_h0_10])), (aW, .inr (10, [f_aW_0, .ref aC, f_aW_2, f_aW_3, f_aW_4, f_aW_5, f_aW_6])), (aC, .inr (1, [f_aC_0, f_aC_1, .int 0])), (hd, .inl (cs 0, 6, .inl g)), (hf, .inl (cs 0, 448, .inl (upd gf_113 56 1000000)))] := hD
    refine lv_iinc (v := 57) (lv' := [(8, .int 57), (7, .int 63), (6, .int 0), (0, .ref h0), (1, .ref aW), (2, .ref aA), (3, .long a), (5, .int (nI 6))]) hx hb dX9_share_108 hl (k := 0) rfl (by first | rfl | decide) (by decide) rfl (fun ls hl => ?_)
    refine lv_goto (tgt := 77) hx hb dX9_share_111 (by decide) ?_
    generalize (upd gf_113 56 1000000) = gf_114 at hP hD
    refine lv_iload hx hb dX9_share_77 (lv_at hl 0 rfl) ?_
    refine lv_iload hx hb dX9_share_79 (lv_at hl 1 rfl) ?_
    refine lv_icmp_gt (tgt := 114) hx hb dX9_share_81 (by decide) (fun h => absurd h (by decide)) (fun _ => ?_)
    refine lv_aload_n hx hb dX9_share_84 rfl (lv_at hl 3 rfl) ?_
    refine va_get (ci := 9) (v := .ref hf) (C := RX9) (T := TX9) (N := 11) hx hb htl inX9 hown hK hP 0 rfl rfl 8 (by decide) (htl _ fl_RX9_31) (fun _ h9 => h9) rfl dX9_share_85 ?_
    refine lv_iload hx hb dX9_share_88 (lv_at hl 2 rfl) ?_
    refine lv_bipush (v := 64) hx hb dX9_share_90 (by decide) ?_
    refine lv_imul hx hb dX9_share_92 ?_
    refine lv_topi (fun xv ex => ?_)
    obtain rfl : xv = 0 := ex.trans (by first | rfl | decide)
    refine lv_iload hx hb dX9_share_93 (lv_at hl 0 rfl) ?_
    refine lv_iadd hx hb dX9_share_95 ?_
    refine lv_topi (fun xv ex => ?_)
    obtain rfl : xv = 57 := ex.trans (by first | rfl | decide)
    refine lv_iload hx hb dX9_share_96 (lv_at hl 0 rfl) ?_
    refine lv_if_ne (tgt := 105) hx hb dX9_share_98 (by decide) (fun _ => ?_) (fun h => absurd h (by decide))
    refine lv_ldc hx hb hown (htl _ ct_RX9_68) dX9_share_105 ?_
    refine va_iast hx hb hK hP hD hS 4 0 rfl rfl (by unfold vp_in; decide) dX9_share_107 (fun H locs hP hD hS => ?_)
    have hP : va_P G vwCl [(h0, .inr (9, [f_h0_0, f_h0_1, f_h0_2, f_h0_3, f_h0_4, f_h0_5, .ref hd, f_h0_7, .ref hf, f_h0_9, f_h0_10])), (aW, .inr (10, [f_aW_0, .ref aC, f_aW_2, f_aW_3, f_aW_4, f_aW_5, f_aW_6])), (aC, .inr (1, [f_aC_0, f_aC_1, .int 0])), (hd, .inl (cs 0, 6, .inl g)), (hf, .inl (cs 0, 448, .inl (upd gf_114 57 1000000)))] H := hP
    have hD : va_D A [(h0, .inr (9, [f_h0_0, f_h0_1, f_h0_2, f_h0_3, f_h0_4, f_h0_5, .ref hd, f_h0_7, .ref hf, f_h0_9, f_h0_10])), (aW, .inr (10, [f_aW_0, .ref aC, f_aW_2, f_aW_3, f_aW_4, f_aW_5, f_aW_6])), (aC, .inr (1, [f_aC_0, f_aC_1, .int 0])), (hd, .inl (cs 0, 6, .inl g)), (hf, .inl (cs 0, 448, .inl (upd gf_114 57 1000000)))] := hD
    refine lv_iinc (v := 58) (lv' := [(8, .int 58), (7, .int 63), (6, .int 0), (0, .ref h0), (1, .ref aW), (2, .ref aA), (3, .long a), (5, .int (nI 6))]) hx hb dX9_share_108 hl (k := 0) rfl (by first | rfl | decide) (by decide) rfl (fun ls hl => ?_)
    refine lv_goto (tgt := 77) hx hb dX9_share_111 (by decide) ?_
    generalize (upd gf_114 57 1000000) = gf_115 at hP hD
    refine lv_iload hx hb dX9_share_77 (lv_at hl 0 rfl) ?_
    refine lv_iload hx hb dX9_share_79 (lv_at hl 1 rfl) ?_
    refine lv_icmp_gt (tgt := 114) hx hb dX9_share_81 (by decide) (fun h => absurd h (by decide)) (fun _ => ?_)
    refine lv_aload_n hx hb dX9_share_84 rfl (lv_at hl 3 rfl) ?_
    refine va_get (ci := 9) (v := .ref hf) (C := RX9) (T := TX9) (N := 11) hx hb htl inX9 hown hK hP 0 rfl rfl 8 (by decide) (htl _ fl_RX9_31) (fun _ h9 => h9) rfl dX9_share_85 ?_
    refine lv_iload hx hb dX9_share_88 (lv_at hl 2 rfl) ?_
    refine lv_bipush (v := 64) hx hb dX9_share_90 (by decide) ?_
    refine lv_imul hx hb dX9_share_92 ?_
    refine lv_topi (fun xv ex => ?_)
    obtain rfl : xv = 0 := ex.trans (by first | rfl | decide)
    refine lv_iload hx hb dX9_share_93 (lv_at hl 0 rfl) ?_
    refine lv_iadd hx hb dX9_share_95 ?_
    refine lv_topi (fun xv ex => ?_)
    obtain rfl : xv = 58 := ex.trans (by first | rfl | decide)
    refine lv_iload hx hb dX9_share_96 (lv_at hl 0 rfl) ?_
    refine lv_if_ne (tgt := 105) hx hb dX9_share_98 (by decide) (fun _ => ?_) (fun h => absurd h (by decide))
    refine lv_ldc hx hb hown (htl _ ct_RX9_68) dX9_share_105 ?_
    refine va_iast hx hb hK hP hD hS 4 0 rfl rfl (by unfold vp_in; decide) dX9_share_107 (fun H locs hP hD hS => ?_)
    have hP : va_P G vwCl [(h0, .inr (9, [f_h0_0, f_h0_1, f_h0_2, f_h0_3, f_h0_4, f_h0_5, .ref hd, f_h0_7, .ref hf, f_h0_9, f_h0_10])), (aW, .inr (10, [f_aW_0, .ref aC, f_aW_2, f_aW_3, f_aW_4, f_aW_5, f_aW_6])), (aC, .inr (1, [f_aC_0, f_aC_1, .int 0])), (hd, .inl (cs 0, 6, .inl g)), (hf, .inl (cs 0, 448, .inl (upd gf_115 58 1000000)))] H := hP
    have hD : va_D A [(h0, .inr (9, [f_h0_0, f_h0_1, f_h0_2, f_h0_3, f_h0_4, f_h0_5, .ref hd, f_h0_7, .ref hf, f_h0_9, f_h0_10])), (aW, .inr (10, [f_aW_0, .ref aC, f_aW_2, f_aW_3, f_aW_4, f_aW_5, f_aW_6])), (aC, .inr (1, [f_aC_0, f_aC_1, .int 0])), (hd, .inl (cs 0, 6, .inl g)), (hf, .inl (cs 0, 448, .inl (upd gf_115 58 1000000)))] := hD
    refine lv_iinc (v := 59) (lv' := [(8, .int 59), (7, .int 63), (6, .int 0), (0, .ref h0), (1, .ref aW), (2, .ref aA), (3, .long a), (5, .int (nI 6))]) hx hb dX9_share_108 hl (k := 0) rfl (by first | rfl | decide) (by decide) rfl (fun ls hl => ?_)
    refine lv_goto (tgt := 77) hx hb dX9_share_111 (by decide) ?_
    generalize (upd gf_115 58 1000000) = gf_116 at hP hD
    refine lv_iload hx hb dX9_share_77 (lv_at hl 0 rfl) ?_
    refine lv_iload hx hb dX9_share_79 (lv_at hl 1 rfl) ?_
    refine lv_icmp_gt (tgt := 114) hx hb dX9_share_81 (by decide) (fun h => absurd h (by decide)) (fun _ => ?_)
    refine lv_aload_n hx hb dX9_share_84 rfl (lv_at hl 3 rfl) ?_
    refine va_get (ci := 9) (v := .ref hf) (C := RX9) (T := TX9) (N := 11) hx hb htl inX9 hown hK hP 0 rfl rfl 8 (by decide) (htl _ fl_RX9_31) (fun _ h9 => h9) rfl dX9_share_85 ?_
    refine lv_iload hx hb dX9_share_88 (lv_at hl 2 rfl) ?_
    refine lv_bipush (v := 64) hx hb dX9_share_90 (by decide) ?_
    refine lv_imul hx hb dX9_share_92 ?_
    refine lv_topi (fun xv ex => ?_)
    obtain rfl : xv = 0 := ex.trans (by first | rfl | decide)
    refine lv_iload hx hb dX9_share_93 (lv_at hl 0 rfl) ?_
    refine lv_iadd hx hb dX9_share_95 ?_
    refine lv_topi (fun xv ex => ?_)
    obtain rfl : xv = 59 := ex.trans (by first | rfl | decide)
    refine lv_iload hx hb dX9_share_96 (lv_at hl 0 rfl) ?_
    refine lv_if_ne (tgt := 105) hx hb dX9_share_98 (by decide) (fun _ => ?_) (fun h => absurd h (by decide))
    refine lv_ldc hx hb hown (htl _ ct_RX9_68) dX9_share_105 ?_
    refine va_iast hx hb hK hP hD hS 4 0 rfl rfl (by unfold vp_in; decide) dX9_share_107 (fun H locs hP hD hS => ?_)
    have hP : va_P G vwCl [(h0, .inr (9, [f_h0_0, f_h0_1, f_h0_2, f_h0_3, f_h0_4, f_h0_5, .ref hd, f_h0_7, .ref hf, f_h0_9, f_h0_10])), (aW, .inr (10, [f_aW_0, .ref aC, f_aW_2, f_aW_3, f_aW_4, f_aW_5, f_aW_6])), (aC, .inr (1, [f_aC_0, f_aC_1, .int 0])), (hd, .inl (cs 0, 6, .inl g)), (hf, .inl (cs 0, 448, .inl (upd gf_116 59 1000000)))] H := hP
    have hD : va_D A [(h0, .inr (9, [f_h0_0, f_h0_1, f_h0_2, f_h0_3, f_h0_4, f_h0_5, .ref hd, f_h0_7, .ref hf, f_h0_9, f_h0_10])), (aW, .inr (10, [f_aW_0, .ref aC, f_aW_2, f_aW_3, f_aW_4, f_aW_5, f_aW_6])), (aC, .inr (1, [f_aC_0, f_aC_1, .int 0])), (hd, .inl (cs 0, 6, .inl g)), (hf, .inl (cs 0, 448, .inl (upd gf_116 59 1000000)))] := hD
    refine lv_iinc (v := 60) (lv' := [(8, .int 60), (7, .int 63), (6, .int 0), (0, .ref h0), (1, .ref aW), (2, .ref aA), (3, .long a), (5, .int (nI 6))]) hx hb dX9_share_108 hl (k := 0) rfl (by first | rfl | decide) (by decide) rfl (fun ls hl => ?_)
    refine lv_goto (tgt := 77) hx hb dX9_share_111 (by decide) ?_
    generalize (upd gf_116 59 1000000) = gf_117 at hP hD
    refine lv_iload hx hb dX9_share_77 (lv_at hl 0 rfl) ?_
    refine lv_iload hx hb dX9_share_79 (lv_at hl 1 rfl) ?_
    refine lv_icmp_gt (tgt := 114) hx hb dX9_share_81 (by decide) (fun h => absurd h (by decide)) (fun _ => ?_)
    refine lv_aload_n hx hb dX9_share_84 rfl (lv_at hl 3 rfl) ?_
    refine va_get (ci := 9) (v := .ref hf) (C := RX9) (T := TX9) (N := 11) hx hb htl inX9 hown hK hP 0 rfl rfl 8 (by decide) (htl _ fl_RX9_31) (fun _ h9 => h9) rfl dX9_share_85 ?_
    refine lv_iload hx hb dX9_share_88 (lv_at hl 2 rfl) ?_
    refine lv_bipush (v := 64) hx hb dX9_share_90 (by decide) ?_
    refine lv_imul hx hb dX9_share_92 ?_
    refine lv_topi (fun xv ex => ?_)
    obtain rfl : xv = 0 := ex.trans (by first | rfl | decide)
    refine lv_iload hx hb dX9_share_93 (lv_at hl 0 rfl) ?_
    refine lv_iadd hx hb dX9_share_95 ?_
    refine lv_topi (fun xv ex => ?_)
    obtain rfl : xv = 60 := ex.trans (by first | rfl | decide)
    refine lv_iload hx hb dX9_share_96 (lv_at hl 0 rfl) ?_
    refine lv_if_ne (tgt := 105) hx hb dX9_share_98 (by decide) (fun _ => ?_) (fun h => absurd h (by decide))
    refine lv_ldc hx hb hown (htl _ ct_RX9_68) dX9_share_105 ?_
    refine va_iast hx hb hK hP hD hS 4 0 rfl rfl (by unfold vp_in; decide) dX9_share_107 (fun H locs hP hD hS => ?_)
    have hP : va_P G vwCl [(h0, .inr (9, [f_h0_0, f_h0_1, f_h0_2, f_h0_3, f_h0_4, f_h0_5, .ref hd, f_h0_7, .ref hf, f_h0_9, f_h0_10])), (aW, .inr (10, [f_aW_0, .ref aC, f_aW_2, f_aW_3, f_aW_4, f_aW_5, f_aW_6])), (aC, .inr (1, [f_aC_0, f_aC_1, .int 0])), (hd, .inl (cs 0, 6, .inl g)), (hf, .inl (cs 0, 448, .inl (upd gf_117 60 1000000)))] H := hP
    have hD : va_D A [(h0, .inr (9, [f_h0_0, f_h0_1, f_h0_2, f_h0_3, f_h0_4, f_h0_5, .ref hd, f_h0_7, .ref hf, f_h0_9, f_h0_10])), (aW, .inr (10, [f_aW_0, .ref aC, f_aW_2, f_aW_3, f_aW_4, f_aW_5, f_aW_6])), (aC, .inr (1, [f_aC_0, f_aC_1, .int 0])), (hd, .inl (cs 0, 6, .inl g)), (hf, .inl (cs 0, 448, .inl (upd gf_117 60 1000000)))] := hD
    refine lv_iinc (v := 61) (lv' := [(8, .int 61), (7, .int 63), (6, .int 0), (0, .ref h0), (1, .ref aW), (2, .ref aA), (3, .long a), (5, .int (nI 6))]) hx hb dX9_share_108 hl (k := 0) rfl (by first | rfl | decide) (by decide) rfl (fun ls hl => ?_)
    refine lv_goto (tgt := 77) hx hb dX9_share_111 (by decide) ?_
    generalize (upd gf_117 60 1000000) = gf_118 at hP hD
    refine lv_iload hx hb dX9_share_77 (lv_at hl 0 rfl) ?_
    refine lv_iload hx hb dX9_share_79 (lv_at hl 1 rfl) ?_
    refine lv_icmp_gt (tgt := 114) hx hb dX9_share_81 (by decide) (fun h => absurd h (by decide)) (fun _ => ?_)
    refine lv_aload_n hx hb dX9_share_84 rfl (lv_at hl 3 rfl) ?_
    refine va_get (ci := 9) (v := .ref hf) (C := RX9) (T := TX9) (N := 11) hx hb htl inX9 hown hK hP 0 rfl rfl 8 (by decide) (htl _ fl_RX9_31) (fun _ h9 => h9) rfl dX9_share_85 ?_
    refine lv_iload hx hb dX9_share_88 (lv_at hl 2 rfl) ?_
    refine lv_bipush (v := 64) hx hb dX9_share_90 (by decide) ?_
    refine lv_imul hx hb dX9_share_92 ?_
    refine lv_topi (fun xv ex => ?_)
    obtain rfl : xv = 0 := ex.trans (by first | rfl | decide)
    refine lv_iload hx hb dX9_share_93 (lv_at hl 0 rfl) ?_
    refine lv_iadd hx hb dX9_share_95 ?_
    refine lv_topi (fun xv ex => ?_)
    obtain rfl : xv = 61 := ex.trans (by first | rfl | decide)
    refine lv_iload hx hb dX9_share_96 (lv_at hl 0 rfl) ?_
    refine lv_if_ne (tgt := 105) hx hb dX9_share_98 (by decide) (fun _ => ?_) (fun h => absurd h (by decide))
    refine lv_ldc hx hb hown (htl _ ct_RX9_68) dX9_share_105 ?_
    refine va_iast hx hb hK hP hD hS 4 0 rfl rfl (by unfold vp_in; decide) dX9_share_107 (fun H locs hP hD hS => ?_)
    have hP : va_P G vwCl [(h0, .inr (9, [f_h0_0, f_h0_1, f_h0_2, f_h0_3, f_h0_4, f_h0_5, .ref hd, f_h0_7, .ref hf, f_h0_9, f_h0_10])), (aW, .inr (10, [f_aW_0, .ref aC, f_aW_2, f_aW_3, f_aW_4, f_aW_5, f_aW_6])), (aC, .inr (1, [f_aC_0, f_aC_1, .int 0])), (hd, .inl (cs 0, 6, .inl g)), (hf, .inl (cs 0, 448, .inl (upd gf_118 61 1000000)))] H := hP
    have hD : va_D A [(h0, .inr (9, [f_h0_0, f_h0_1, f_h0_2, f_h0_3, f_h0_4, f_h0_5, .ref hd, f_h0_7, .ref hf, f_h0_9, f_h0_10])), (aW, .inr (10, [f_aW_0, .ref aC, f_aW_2, f_aW_3, f_aW_4, f_aW_5, f_aW_6])), (aC, .inr (1, [f_aC_0, f_aC_1, .int 0])), (hd, .inl (cs 0, 6, .inl g)), (hf, .inl (cs 0, 448, .inl (upd gf_118 61 1000000)))] := hD
    refine lv_iinc (v := 62) (lv' := [(8, .int 62), (7, .int 63), (6, .int 0), (0, .ref h0), (1, .ref aW), (2, .ref aA), (3, .long a), (5, .int (nI 6))]) hx hb dX9_share_108 hl (k := 0) rfl (by first | rfl | decide) (by decide) rfl (fun ls hl => ?_)
    refine lv_goto (tgt := 77) hx hb dX9_share_111 (by decide) ?_
    generalize (upd gf_118 61 1000000) = gf_119 at hP hD
    refine lv_iload hx hb dX9_share_77 (lv_at hl 0 rfl) ?_
    refine lv_iload hx hb dX9_share_79 (lv_at hl 1 rfl) ?_
    refine lv_icmp_gt (tgt := 114) hx hb dX9_share_81 (by decide) (fun h => absurd h (by decide)) (fun _ => ?_)
    refine lv_aload_n hx hb dX9_share_84 rfl (lv_at hl 3 rfl) ?_
    refine va_get (ci := 9) (v := .ref hf) (C := RX9) (T := TX9) (N := 11) hx hb htl inX9 hown hK hP 0 rfl rfl 8 (by decide) (htl _ fl_RX9_31) (fun _ h9 => h9) rfl dX9_share_85 ?_
    refine lv_iload hx hb dX9_share_88 (lv_at hl 2 rfl) ?_
    refine lv_bipush (v := 64) hx hb dX9_share_90 (by decide) ?_
    refine lv_imul hx hb dX9_share_92 ?_
    refine lv_topi (fun xv ex => ?_)
    obtain rfl : xv = 0 := ex.trans (by first | rfl | decide)
    refine lv_iload hx hb dX9_share_93 (lv_at hl 0 rfl) ?_
    refine lv_iadd hx hb dX9_share_95 ?_
    refine lv_topi (fun xv ex => ?_)
    obtain rfl : xv = 62 := ex.trans (by first | rfl | decide)
    refine lv_iload hx hb dX9_share_96 (lv_at hl 0 rfl) ?_
    refine lv_if_ne (tgt := 105) hx hb dX9_share_98 (by decide) (fun _ => ?_) (fun h => absurd h (by decide))
    refine lv_ldc hx hb hown (htl _ ct_RX9_68) dX9_share_105 ?_
    refine va_iast hx hb hK hP hD hS 4 0 rfl rfl (by unfold vp_in; decide) dX9_share_107 (fun H locs hP hD hS => ?_)
    have hP : va_P G vwCl [(h0, .inr (9, [f_h0_0, f_h0_1, f_h0_2, f_h0_3, f_h0_4, f_h0_5, .ref hd, f_h0_7, .ref hf, f_h0_9, f_h0_10])), (aW, .inr (10, [f_aW_0, .ref aC, f_aW_2, f_aW_3, f_aW_4, f_aW_5, f_aW_6])), (aC, .inr (1, [f_aC_0, f_aC_1, .int 0])), (hd, .inl (cs 0, 6, .inl g)), (hf, .inl (cs 0, 448, .inl (upd gf_119 62 1000000)))] H := hP
    have hD : va_D A [(h0, .inr (9, [f_h0_0, f_h0_1, f_h0_2, f_h0_3, f_h0_4, f_h0_5, .ref hd, f_h0_7, .ref hf, f_h0_9, f_h0_10])), (aW, .inr (10, [f_aW_0, .ref aC, f_aW_2, f_aW_3, f_aW_4, f_aW_5, f_aW_6])), (aC, .inr (1, [f_aC_0, f_aC_1, .int 0])), (hd, .inl (cs 0, 6, .inl g)), (hf, .inl (cs 0, 448, .inl (upd gf_119 62 1000000)))] := hD
    refine lv_iinc (v := 63) (lv' := [(8, .int 63), (7, .int 63), (6, .int 0), (0, .ref h0), (1, .ref aW), (2, .ref aA), (3, .long a), (5, .int (nI 6))]) hx hb dX9_share_108 hl (k := 0) rfl (by first | rfl | decide) (by decide) rfl (fun ls hl => ?_)
    refine lv_goto (tgt := 77) hx hb dX9_share_111 (by decide) ?_
    generalize (upd gf_119 62 1000000) = gf_120 at hP hD
    refine lv_iload hx hb dX9_share_77 (lv_at hl 0 rfl) ?_
    refine lv_iload hx hb dX9_share_79 (lv_at hl 1 rfl) ?_
    refine lv_icmp_gt (tgt := 114) hx hb dX9_share_81 (by decide) (fun h => absurd h (by decide)) (fun _ => ?_)
    refine lv_aload_n hx hb dX9_share_84 rfl (lv_at hl 3 rfl) ?_
    refine va_get (ci := 9) (v := .ref hf) (C := RX9) (T := TX9) (N := 11) hx hb htl inX9 hown hK hP 0 rfl rfl 8 (by decide) (htl _ fl_RX9_31) (fun _ h9 => h9) rfl dX9_share_85 ?_
    refine lv_iload hx hb dX9_share_88 (lv_at hl 2 rfl) ?_
    refine lv_bipush (v := 64) hx hb dX9_share_90 (by decide) ?_
    refine lv_imul hx hb dX9_share_92 ?_
    refine lv_topi (fun xv ex => ?_)
    obtain rfl : xv = 0 := ex.trans (by first | rfl | decide)
    refine lv_iload hx hb dX9_share_93 (lv_at hl 0 rfl) ?_
    refine lv_iadd hx hb dX9_share_95 ?_
    refine lv_topi (fun xv ex => ?_)
    obtain rfl : xv = 63 := ex.trans (by first | rfl | decide)
    refine lv_iload hx hb dX9_share_96 (lv_at hl 0 rfl) ?_
    refine lv_if_ne (tgt := 105) hx hb dX9_share_98 (by decide) (fun _ => ?_) (fun h => absurd h (by decide))
    refine lv_ldc hx hb hown (htl _ ct_RX9_68) dX9_share_105 ?_
    refine va_iast hx hb hK hP hD hS 4 0 rfl rfl (by unfold vp_in; decide) dX9_share_107 (fun H locs hP hD hS => ?_)
    have hP : va_P G vwCl [(h0, .inr (9, [f_h0_0, f_h0_1, f_h0_2, f_h0_3, f_h0_4, f_h0_5, .ref hd, f_h0_7, .ref hf, f_h0_9, f_h0_10])), (aW, .inr (10, [f_aW_0, .ref aC, f_aW_2, f_aW_3, f_aW_4, f_aW_5, f_aW_6])), (aC, .inr (1, [f_aC_0, f_aC_1, .int 0])), (hd, .inl (cs 0, 6, .inl g)), (hf, .inl (cs 0, 448, .inl (upd gf_120 63 1000000)))] H := hP
    have hD : va_D A [(h0, .inr (9, [f_h0_0, f_h0_1, f_h0_2, f_h0_3, f_h0_4, f_h0_5, .ref hd, f_h0_7, .ref hf, f_h0_9, f_h0_10])), (aW, .inr (10, [f_aW_0, .ref aC, f_aW_2, f_aW_3, f_aW_4, f_aW_5, f_aW_6])), (aC, .inr (1, [f_aC_0, f_aC_1, .int 0])), (hd, .inl (cs 0, 6, .inl g)), (hf, .inl (cs 0, 448, .inl (upd gf_120 63 1000000)))] := hD
    refine lv_iinc (v := 64) (lv' := [(8, .int 64), (7, .int 63), (6, .int 0), (0, .ref h0), (1, .ref aW), (2, .ref aA), (3, .long a), (5, .int (nI 6))]) hx hb dX9_share_108 hl (k := 0) rfl (by first | rfl | decide) (by decide) rfl (fun ls hl => ?_)
    refine lv_goto (tgt := 77) hx hb dX9_share_111 (by decide) ?_
    refine lv_iload hx hb dX9_share_77 (lv_at hl 0 rfl) ?_
    refine lv_iload hx hb dX9_share_79 (lv_at hl 1 rfl) ?_
    refine lv_icmp_gt (tgt := 114) hx hb dX9_share_81 (by decide) (fun _ => ?_) (fun h => absurd (by decide) h)
    refine lv_iload hx hb dX9_share_114 (lv_at hl 2 rfl) ?_
    refine lv_iconst (v := 1) hx hb dX9_share_116 (by decide) ?_
    refine lv_isub hx hb dX9_share_117 ?_
    refine lv_topi (fun xv ex => ?_)
    obtain rfl : xv = (-1) := ex.trans (by first | rfl | decide)
    refine lv_istore (lv' := [(8, .int (-1)), (7, .int 63), (6, .int 0), (0, .ref h0), (1, .ref aW), (2, .ref aA), (3, .long a), (5, .int (nI 6))]) hx hb dX9_share_118 hl (by decide) rfl (fun ls hl => ?_)
    refine lv_iload hx hb dX9_share_120 (lv_at hl 0 rfl) ?_
    refine lv_if_lt (tgt := 170) hx hb dX9_share_122 (by decide) (fun _ => ?_) (fun h => absurd (by decide) h)
    refine lv_aload_n hx hb dX9_share_170 rfl (lv_at hl 3 rfl) ?_
    refine lv_aload_n hx hb dX9_share_171 rfl (lv_at hl 3 rfl) ?_
    refine va_get (ci := 9) (v := .ref hf) (C := RX9) (T := TX9) (N := 11) hx hb htl inX9 hown hK hP 0 rfl rfl 8 (by decide) (htl _ fl_RX9_31) (fun _ h9 => h9) rfl dX9_share_172 ?_
    refine lv_iload hx hb dX9_share_175 (lv_at hl 1 rfl) ?_
    refine va_iald hx hb hK hP 4 0 rfl rfl (by unfold vp_in; decide) dX9_share_177 ?_
    refine lv_topi (fun xv ex => ?_)
    obtain rfl : xv = 1000000 := ex.trans (by first | exact pk_us | rfl | decide)
    refine va_put (ci := 9) (v := .int 1000000) (ty := .int) (C := RX9) (T := TX9) (N := 11) hx hb htl inX9 tyX9 tyX9_ok nmX9 hown hK hP hD hS 0 rfl rfl 5 (by decide) (htl _ fl_RX9_92) (fun _ h9 => h9) rfl (by decide +kernel) (by first | rfl | decide) (by first | rfl | decide) (Nat.le_of_ble_eq_true rfl) dX9_share_178 (fun H locs hP hD hS => ?_)
    have hP : va_P G vwCl [(h0, .inr (9, [f_h0_0, f_h0_1, f_h0_2, f_h0_3, f_h0_4, .int 1000000, .ref hd, f_h0_7, .ref hf, f_h0_9, f_h0_10])), (aW, .inr (10, [f_aW_0, .ref aC, f_aW_2, f_aW_3, f_aW_4, f_aW_5, f_aW_6])), (aC, .inr (1, [f_aC_0, f_aC_1, .int 0])), (hd, .inl (cs 0, 6, .inl g)), (hf, .inl (cs 0, 448, .inl (upd gf_120 63 1000000)))] H := hP
    have hD : va_D A [(h0, .inr (9, [f_h0_0, f_h0_1, f_h0_2, f_h0_3, f_h0_4, .int 1000000, .ref hd, f_h0_7, .ref hf, f_h0_9, f_h0_10])), (aW, .inr (10, [f_aW_0, .ref aC, f_aW_2, f_aW_3, f_aW_4, f_aW_5, f_aW_6])), (aC, .inr (1, [f_aC_0, f_aC_1, .int 0])), (hd, .inl (cs 0, 6, .inl g)), (hf, .inl (cs 0, 448, .inl (upd gf_120 63 1000000)))] := hD
    refine lv_aload_n hx hb dX9_share_181 rfl (lv_at hl 3 rfl) ?_
    refine va_get (ci := 9) (v := .int 1000000) (C := RX9) (T := TX9) (N := 11) hx hb htl inX9 hown hK hP 0 rfl rfl 5 (by decide) (htl _ fl_RX9_92) (fun _ h9 => h9) rfl dX9_share_182 ?_
    refine lv_ldc hx hb hown (htl _ ct_RX9_68) dX9_share_185 ?_
    refine lv_icmp_lt (tgt := 192) hx hb dX9_share_187 (by decide) (fun h => absurd h (by decide)) (fun _ => ?_)
    refine lv_iconst (v := 0) hx hb dX9_share_190 (by decide) ?_
    exact W.zret (ty := .boolean) (v := 0) hx hb hr (by decide) (fun t ht hW => ⟨⟨0, (), rfl, ⟨rfl, (by decide)⟩, ⟨fun k q h => by simp at h, va_K.moved hW.alike hK, ⟨fun i j p q h => by simp at h, fun k q h => by simp at h⟩⟩⟩, hS.F ht⟩) hS.2.2 dX9_share_191

def sp_X11_gangs_n (a : Int64) (b : Int32) : Int32 := if (lg_cmp a 0) < 0 then (-1) else (if (lg_cmp (a >>> ((40 : Int32).toInt64 &&& 63)) 0) = 0 then (if 6 < (sp_J_lbc a) then (-1) else (if (sp_X11_isWithin b 1) = 0 then (-1) else (-1))) else (-1))
set_option maxHeartbeats 1000000 in
set_option maxRecDepth 100000 in
theorem c_X11_gangs_n (l : Launch) (G : va_G) (cs : Nat → ClassId) (h0 : Nat) (a : Int64) (b : Int32) (aA : Nat) (aS : Nat) (f_h0_2 : Value) (f_h0_3 : Value) (f_h0_4 : Value) (f_h0_5 : Value) (aY : Nat) (f_h0_7 : Value) (f_h0_8 : Value) (f_h0_9 : Value) (f_h0_10 : Value) (f_h0_11 : Value) (h1 : Nat) (lr : Int32) (aW : Nat) (aD : Nat) (f_aS_2 : Value) (f_aS_3 : Value) (f_aS_4 : Value) (f_aW_0 : Value) (aC : Nat) (f_aW_2 : Value) (f_aW_3 : Value) (f_aW_4 : Value) (f_aW_5 : Value) (f_aC_0 : Value) (f_aC_1 : Value) (f_aA_0 : Value) (f_aA_1 : Value) (f_aA_2 : Value) (f_aA_3 : Value) (f_aA_4 : Value) (f_aA_5 : Value) (f_aA_6 : Value) (f_aA_7 : Value) (f_aA_8 : Value) (f_aY_0 : Value) (f_aY_1 : Value) (f_aY_2 : Value) (f_aY_3 : Value) (f_aY_4 : Value) (f_aY_5 : Value) (hd : Nat) (f_aY_7 : Value) (hf : Nat) (f_aY_9 : Value) (f_aY_10 : Value) (df : Nat → Int32) (ff : Nat → Int32) (sz : Nat) (hc0 : ¬ a = 0) : Met l yX11_gangs (Cond.code yX11_gangs cX11_gangs 5 (some .int) :: gW) ({ frames := 2, cells := 0, slots := 0, locals := 55 }) (va_Pc [.ref h0, .long a, .int b] (Pre G cs [(h0, .inr (11, [.ref aA, .ref aS, f_h0_2, f_h0_3, f_h0_4, f_h0_5, .ref aY, f_h0_7, f_h0_8, f_h0_9, f_h0_10, f_h0_11, .ref h1, .int lr])), (aS, .inr (7, [.ref aW, .ref aD, f_aS_2, f_aS_3, f_aS_4])), (aW, .inr (10, [f_aW_0, .ref aC, f_aW_2, f_aW_3, f_aW_4, f_aW_5, .int (-1)])), (aC, .inr (1, [f_aC_0, f_aC_1, .int 0])), (aA, .inr (0, [f_aA_0, f_aA_1, f_aA_2, f_aA_3, f_aA_4, f_aA_5, f_aA_6, f_aA_7, f_aA_8])), (aY, .inr (9, [f_aY_0, f_aY_1, f_aY_2, f_aY_3, f_aY_4, f_aY_5, .ref hd, f_aY_7, .ref hf, f_aY_9, f_aY_10])), (hd, .inl (cs 0, 6, .inl df)), (hf, .inl (cs 0, 448, .inl ff))] sz)) (va_Qi (fun r (u : Unit) => r = sp_X11_gangs_n a b) (fun (u : Unit) t => Aft G cs (va_A [(h0, .inr (11, [.ref aA, .ref aS, f_h0_2, f_h0_3, f_h0_4, f_h0_5, .ref aY, f_h0_7, f_h0_8, f_h0_9, f_h0_10, f_h0_11, .ref h1, .int lr])), (aS, .inr (7, [.ref aW, .ref aD, f_aS_2, f_aS_3, f_aS_4])), (aW, .inr (10, [f_aW_0, .ref aC, f_aW_2, f_aW_3, f_aW_4, f_aW_5, .int (-1)])), (aC, .inr (1, [f_aC_0, f_aC_1, .int 0])), (aA, .inr (0, [f_aA_0, f_aA_1, f_aA_2, f_aA_3, f_aA_4, f_aA_5, f_aA_6, f_aA_7, f_aA_8])), (aY, .inr (9, [f_aY_0, f_aY_1, f_aY_2, f_aY_3, f_aY_4, f_aY_5, .ref hd, f_aY_7, .ref hf, f_aY_9, f_aY_10])), (hd, .inl (cs 0, 6, .inl df)), (hf, .inl (cs 0, 448, .inl ff))] sz) [] t) (va_A [(h0, .inr (11, [.ref aA, .ref aS, f_h0_2, f_h0_3, f_h0_4, f_h0_5, .ref aY, f_h0_7, f_h0_8, f_h0_9, f_h0_10, f_h0_11, .ref h1, .int lr])), (aS, .inr (7, [.ref aW, .ref aD, f_aS_2, f_aS_3, f_aS_4])), (aW, .inr (10, [f_aW_0, .ref aC, f_aW_2, f_aW_3, f_aW_4, f_aW_5, .int (-1)])), (aC, .inr (1, [f_aC_0, f_aC_1, .int 0])), (aA, .inr (0, [f_aA_0, f_aA_1, f_aA_2, f_aA_3, f_aA_4, f_aA_5, f_aA_6, f_aA_7, f_aA_8])), (aY, .inr (9, [f_aY_0, f_aY_1, f_aY_2, f_aY_3, f_aY_4, f_aY_5, .ref hd, f_aY_7, .ref hf, f_aY_9, f_aY_10])), (hd, .inl (cs 0, 6, .inl df)), (hf, .inl (cs 0, 448, .inl ff))] sz)) 0 0 (va_A [(h0, .inr (11, [.ref aA, .ref aS, f_h0_2, f_h0_3, f_h0_4, f_h0_5, .ref aY, f_h0_7, f_h0_8, f_h0_9, f_h0_10, f_h0_11, .ref h1, .int lr])), (aS, .inr (7, [.ref aW, .ref aD, f_aS_2, f_aS_3, f_aS_4])), (aW, .inr (10, [f_aW_0, .ref aC, f_aW_2, f_aW_3, f_aW_4, f_aW_5, .int (-1)])), (aC, .inr (1, [f_aC_0, f_aC_1, .int 0])), (aA, .inr (0, [f_aA_0, f_aA_1, f_aA_2, f_aA_3, f_aA_4, f_aA_5, f_aA_6, f_aA_7, f_aA_8])), (aY, .inr (9, [f_aY_0, f_aY_1, f_aY_2, f_aY_3, f_aY_4, f_aY_5, .ref hd, f_aY_7, .ref hf, f_aY_9, f_aY_10])), (hd, .inl (cs 0, 6, .inl df)), (hf, .inl (cs 0, 448, .inl ff))] sz) := by
  refine Met.ofW (cc := cX11_gangs) (maxL := 5) (ret := (some .int)) (by decide) rfl ?_
  intro p e s m args below meth c s₁ B hml hv
  obtain ⟨rfl, hsz, hP, hK, hD0, hN⟩ := hv
  have hx := B.exec
  have hb := B.bytes
  have hr := B.returns
  have hts := atoms_spec (ws := Cond.code yX11_gangs cX11_gangs 5 (some .int) :: gW) B.pre
  have htl : ∀ w ∈ gW, w.before _ s = true := fun w h => hts w (List.mem_cons_of_mem _ h)
  have hown : s.vm.findClass RX11 = some m.cls := findClass_of_methodNamed B.named
  have hlocks := B.notSynchronized
  subst hsz
  have hD := hD0.self (sz := s.heap.size)
  generalize hAe : va_A [(h0, .inr (11, [.ref aA, .ref aS, f_h0_2, f_h0_3, f_h0_4, f_h0_5, .ref aY, f_h0_7, f_h0_8, f_h0_9, f_h0_10, f_h0_11, .ref h1, .int lr])), (aS, .inr (7, [.ref aW, .ref aD, f_aS_2, f_aS_3, f_aS_4])), (aW, .inr (10, [f_aW_0, .ref aC, f_aW_2, f_aW_3, f_aW_4, f_aW_5, .int (-1)])), (aC, .inr (1, [f_aC_0, f_aC_1, .int 0])), (aA, .inr (0, [f_aA_0, f_aA_1, f_aA_2, f_aA_3, f_aA_4, f_aA_5, f_aA_6, f_aA_7, f_aA_8])), (aY, .inr (9, [f_aY_0, f_aY_1, f_aY_2, f_aY_3, f_aY_4, f_aY_5, .ref hd, f_aY_7, .ref hf, f_aY_9, f_aY_10])), (hd, .inl (cs 0, 6, .inl df)), (hf, .inl (cs 0, 448, .inl ff))] s.heap.size = A at hD ⊢
  have hA : ∀ q : Nat, s.heap.size ≤ q → A q := fun q h => by rw [← hAe]; exact Or.inr h
  have hS : va_S A s.heap s.heap [] := va_S.rf
  have hl := lv_entry ([.ref h0, .long a, .int b]) (n := 5) (Nat.le_of_ble_eq_true rfl)
  rw [lg_entry_eq]
  generalize (lg_sl ([.ref h0, .long a, .int b]) ++ List.replicate (5 - (lg_sl ([.ref h0, .long a, .int b])).length) Slot.unset).toArray = ls at hl ⊢
  have hl : lv_has ls 5 [(0, .ref h0), (1, .long a), (3, .int b)] := hl
  refine lv_aload_n hx hb dX11_gangs_0 rfl (lv_at hl 0 rfl) ?_
  refine va_get (ci := 11) (v := .ref aS) (C := RX11) (T := TX11) (N := 14) hx hb htl inX11 hown hK hP 0 rfl rfl 1 (by decide) (htl _ fl_RX11_21) (fun _ h9 => h9) rfl dX11_gangs_1 ?_
  refine va_get (ci := 7) (v := .ref aW) (C := RX7) (T := TX7) (N := 5) hx hb htl inX7 hown hK hP 1 rfl rfl 0 (by decide) (htl _ fl_RX11_78) (fun _ h9 => h9) rfl dX11_gangs_4 ?_
  refine va_get (ci := 10) (v := .ref aC) (C := RX10) (T := TX10) (N := 7) hx hb htl inX10 hown hK hP 2 rfl rfl 1 (by decide) (htl _ fl_RX11_134) (fun _ h9 => h9) rfl dX11_gangs_7 ?_
  refine va_get (ci := 1) (v := .int 0) (C := RX1) (T := TX1) (N := 3) hx hb htl inX1 hown hK hP 3 rfl rfl 2 (by decide) (htl _ fl_RX11_137) (fun _ h9 => h9) rfl dX11_gangs_10 ?_
  refine lv_istore (lv' := [(4, .int 0), (0, .ref h0), (1, .long a), (3, .int b)]) hx hb dX11_gangs_13 hl (by decide) rfl (fun ls hl => ?_)
  refine lv_lload_n hx hb dX11_gangs_15 rfl (lv_at hl 2 rfl) ?_
  refine lv_lconst (v := 0) hx hb dX11_gangs_16 (by decide) ?_
  refine W.lcmp hx hb dX11_gangs_17 ?_
  refine lv_if_lt (tgt := 50) hx hb dX11_gangs_18 (by decide) (fun c_18 => ?_) (fun c_18 => ?_)
  · refine lv_iconst (v := (-1)) hx hb dX11_gangs_50 (by decide) ?_
    exact W.iret (v := (-1)) hx hb hr (fun t ht hW => ⟨⟨(-1), (), rfl, (by unfold sp_X11_gangs_n; rw [if_pos c_18]), ⟨fun k q h => by simp at h, va_K.moved hW.alike hK, ⟨fun i j p q h => by simp at h, fun k q h => by simp at h⟩⟩⟩, hS.F ht⟩) hS.2.2 dX11_gangs_51
  · refine lv_lload_n hx hb dX11_gangs_21 rfl (lv_at hl 2 rfl) ?_
    refine lv_bipush (v := 40) hx hb dX11_gangs_22 (by decide) ?_
    refine lv_lshr (v := (a >>> ((40 : Int32).toInt64 &&& 63))) hx hb dX11_gangs_24 (by first | rfl | decide) ?_
    refine lv_lconst (v := 0) hx hb dX11_gangs_25 (by decide) ?_
    refine W.lcmp hx hb dX11_gangs_26 ?_
    refine lv_if_ne (tgt := 50) hx hb dX11_gangs_27 (by decide) (fun c_27 => ?_) (fun c_27 => ?_)
    · refine lv_iconst (v := (-1)) hx hb dX11_gangs_50 (by decide) ?_
      exact W.iret (v := (-1)) hx hb hr (fun t ht hW => ⟨⟨(-1), (), rfl, (by unfold sp_X11_gangs_n; rw [if_neg c_18, if_neg c_27]), ⟨fun k q h => by simp at h, va_K.moved hW.alike hK, ⟨fun i j p q h => by simp at h, fun k q h => by simp at h⟩⟩⟩, hS.F ht⟩) hS.2.2 dX11_gangs_51
    · refine lv_lload_n hx hb dX11_gangs_30 rfl (lv_at hl 2 rfl) ?_
      refine vp_callSi (mkSr (rest := []) ⟨hx, hb, hml, hown, htl⟩ hN hK (c_J_lbc l G cs a) (cS 1 htl lk_RX11_308 mT_J13_bitCount_95d88 mN_RJ13 mC_J13_bitCount_95d88 ok_J13_bitCount_95d88 rfl rfl ⟨(Nat.le_of_ble_eq_true rfl), (Nat.le_of_ble_eq_true rfl)⟩) rfl hl.1 rfl (Nat.le_of_ble_eq_true rfl) dX11_gangs_31 ⟨(Nat.le_of_ble_eq_true rfl), (Nat.le_of_ble_eq_true rfl)⟩) (fun r hw => ?_)
      subst hw
      refine lv_bipush (v := 6) hx hb dX11_gangs_34 (by decide) ?_
      refine lv_icmp_gt (tgt := 50) hx hb dX11_gangs_36 (by decide) (fun c_36 => ?_) (fun c_36 => ?_)
      · refine lv_iconst (v := (-1)) hx hb dX11_gangs_50 (by decide) ?_
        exact W.iret (v := (-1)) hx hb hr (fun t ht hW => ⟨⟨(-1), (), rfl, (by unfold sp_X11_gangs_n; rw [if_neg c_18, if_pos c_27, if_pos c_36]), ⟨fun k q h => by simp at h, va_K.moved hW.alike hK, ⟨fun i j p q h => by simp at h, fun k q h => by simp at h⟩⟩⟩, hS.F ht⟩) hS.2.2 dX11_gangs_51
      · refine lv_iload_n hx hb dX11_gangs_39 rfl (lv_at hl 3 rfl) ?_
        refine lv_iload hx hb dX11_gangs_40 (lv_at hl 0 rfl) ?_
        refine lv_iconst (v := 1) hx hb dX11_gangs_42 (by decide) ?_
        refine lv_iadd hx hb dX11_gangs_43 ?_
        refine lv_topi (fun xv ex => ?_)
        obtain rfl : xv = 1 := ex.trans (by first | rfl | decide)
        refine vp_callSi (mkSr (rest := []) ⟨hx, hb, hml, hown, htl⟩ hN hK (c_X11_isWithin l G cs b 1) (cS 2 htl lk_RX11_82 mT_X11_isWithin mN_RX11 mC_X11_isWithin ok_X11_isWithin rfl rfl ⟨(Nat.le_of_ble_eq_true rfl), (Nat.le_of_ble_eq_true rfl)⟩) rfl hl.1 rfl (Nat.le_of_ble_eq_true rfl) dX11_gangs_44 ⟨(Nat.le_of_ble_eq_true rfl), (Nat.le_of_ble_eq_true rfl)⟩) (fun r hw => ?_)
        obtain ⟨rfl, hz_1⟩ := hw
        refine lv_if_ne (tgt := 52) hx hb dX11_gangs_47 (by decide) (fun c_47 => ?_) (fun c_47 => ?_)
        · refine lv_aload_n hx hb dX11_gangs_52 rfl (lv_at hl 1 rfl) ?_
          refine va_get (ci := 11) (v := .ref aA) (C := RX11) (T := TX11) (N := 14) hx hb htl inX11 hown hK hP 0 rfl rfl 0 (by decide) (htl _ fl_RX11_10) (fun _ h9 => h9) rfl dX11_gangs_53 ?_
          refine lv_aload_n hx hb dX11_gangs_56 rfl (lv_at hl 1 rfl) ?_
          refine va_get (ci := 11) (v := .ref aS) (C := RX11) (T := TX11) (N := 14) hx hb htl inX11 hown hK hP 0 rfl rfl 1 (by decide) (htl _ fl_RX11_21) (fun _ h9 => h9) rfl dX11_gangs_57 ?_
          refine va_get (ci := 7) (v := .ref aW) (C := RX7) (T := TX7) (N := 5) hx hb htl inX7 hown hK hP 1 rfl rfl 0 (by decide) (htl _ fl_RX11_78) (fun _ h9 => h9) rfl dX11_gangs_60 ?_
          refine lv_aload_n hx hb dX11_gangs_63 rfl (lv_at hl 1 rfl) ?_
          refine va_get (ci := 11) (v := .ref aS) (C := RX11) (T := TX11) (N := 14) hx hb htl inX11 hown hK hP 0 rfl rfl 1 (by decide) (htl _ fl_RX11_21) (fun _ h9 => h9) rfl dX11_gangs_64 ?_
          refine va_get (ci := 7) (v := .ref aW) (C := RX7) (T := TX7) (N := 5) hx hb htl inX7 hown hK hP 1 rfl rfl 0 (by decide) (htl _ fl_RX11_78) (fun _ h9 => h9) rfl dX11_gangs_67 ?_
          refine va_csr (mkVr (rest := [.ref aW, .ref aA]) ⟨hx, hb, hml, hown, htl⟩ hN hK hP (c_X10_lawInForce l G cs aW f_aW_0 (.ref aC) f_aW_2 f_aW_3 f_aW_4 f_aW_5) [2] rfl 0 10 rfl rfl (cV 0 htl lk_RX11_116 mI_X10_lawInForce mS_X10_lawInForce mN_RX10 mC_X10_lawInForce ok_X10_lawInForce rfl rfl ⟨(Nat.le_of_ble_eq_true rfl), (Nat.le_of_ble_eq_true rfl)⟩) rfl hl.1 rfl (Nat.le_of_ble_eq_true rfl) dX11_gangs_70 ⟨(Nat.le_of_ble_eq_true rfl), (Nat.le_of_ble_eq_true rfl)⟩) (fun r hw => ?_)
          clear hw
          refine W.eq (g2 := F0 m 73 ls [.null, .ref aW, .ref aA]) rfl ?_
          refine mv (wr := [(h0, .inr (11, [.ref aA, .ref aS, f_h0_2, f_h0_3, f_h0_4, f_h0_5, .ref aY, f_h0_7, f_h0_8, f_h0_9, f_h0_10, f_h0_11, .ref h1, .int lr])), (aS, .inr (7, [.ref aW, .ref aD, f_aS_2, f_aS_3, f_aS_4])), (aW, .inr (10, [f_aW_0, .ref aC, f_aW_2, f_aW_3, f_aW_4, f_aW_5, .int (-1)])), (aC, .inr (1, [f_aC_0, f_aC_1, .int 0])), (aY, .inr (9, [f_aY_0, f_aY_1, f_aY_2, f_aY_3, f_aY_4, f_aY_5, .ref hd, f_aY_7, .ref hf, f_aY_9, f_aY_10])), (hd, .inl (cs 0, 6, .inl df)), (hf, .inl (cs 0, 448, .inl ff))]) (mkV (rest := []) ⟨hx, hb, hml, hown, htl⟩ hN hK hP hD (c_X0_turnTo l G cs aA aW f_aA_0 f_aA_1 f_aA_2 f_aA_3 f_aA_4 f_aA_5 f_aA_6 f_aA_7 f_aA_8 _) [4] rfl rfl 0 0 rfl rfl (cV 2 htl lk_RX11_120 mI_X0_turnTo mS_X0_turnTo mN_RX0 mC_X0_turnTo ok_X0_turnTo rfl rfl ⟨(Nat.le_of_ble_eq_true rfl), (Nat.le_of_ble_eq_true rfl)⟩) rfl hl.1 rfl (Nat.le_of_ble_eq_true rfl) dX11_gangs_73 ⟨(Nat.le_of_ble_eq_true rfl), (Nat.le_of_ble_eq_true rfl)⟩) hP hD hS hA [4] [0, 1, 2, 3, 5, 6, 7] rfl rfl rfl (by decide) (fun u_73 H locs hw hP hD hS => ?_)
          have hP : va_P G vwCl [(h0, .inr (11, [.ref aA, .ref aS, f_h0_2, f_h0_3, f_h0_4, f_h0_5, .ref aY, f_h0_7, f_h0_8, f_h0_9, f_h0_10, f_h0_11, .ref h1, .int lr])), (aS, .inr (7, [.ref aW, .ref aD, f_aS_2, f_aS_3, f_aS_4])), (aW, .inr (10, [f_aW_0, .ref aC, f_aW_2, f_aW_3, f_aW_4, f_aW_5, .int (-1)])), (aC, .inr (1, [f_aC_0, f_aC_1, .int 0])), (aY, .inr (9, [f_aY_0, f_aY_1, f_aY_2, f_aY_3, f_aY_4, f_aY_5, .ref hd, f_aY_7, .ref hf, f_aY_9, f_aY_10])), (hd, .inl (cs 0, 6, .inl df)), (hf, .inl (cs 0, 448, .inl ff)), (aA, .inr (0, [f_aA_0, .ref aW, .null, f_aA_3, f_aA_4, f_aA_5, f_aA_6, f_aA_7, f_aA_8]))] H := hP
          have hD : va_D A [(h0, .inr (11, [.ref aA, .ref aS, f_h0_2, f_h0_3, f_h0_4, f_h0_5, .ref aY, f_h0_7, f_h0_8, f_h0_9, f_h0_10, f_h0_11, .ref h1, .int lr])), (aS, .inr (7, [.ref aW, .ref aD, f_aS_2, f_aS_3, f_aS_4])), (aW, .inr (10, [f_aW_0, .ref aC, f_aW_2, f_aW_3, f_aW_4, f_aW_5, .int (-1)])), (aC, .inr (1, [f_aC_0, f_aC_1, .int 0])), (aY, .inr (9, [f_aY_0, f_aY_1, f_aY_2, f_aY_3, f_aY_4, f_aY_5, .ref hd, f_aY_7, .ref hf, f_aY_9, f_aY_10])), (hd, .inl (cs 0, 6, .inl df)), (hf, .inl (cs 0, 448, .inl ff)), (aA, .inr (0, [f_aA_0, .ref aW, .null, f_aA_3, f_aA_4, f_aA_5, f_aA_6, f_aA_7, f_aA_8]))] := hD
          refine lv_aload_n hx hb dX11_gangs_76 rfl (lv_at hl 1 rfl) ?_
          refine va_get (ci := 11) (v := .ref aY) (C := RX11) (T := TX11) (N := 14) hx hb htl inX11 hown hK hP 0 rfl rfl 6 (by decide) (htl _ fl_RX11_49) (fun _ h9 => h9) rfl dX11_gangs_77 ?_
          refine lv_aload_n hx hb dX11_gangs_80 rfl (lv_at hl 1 rfl) ?_
          refine va_get (ci := 11) (v := .ref aS) (C := RX11) (T := TX11) (N := 14) hx hb htl inX11 hown hK hP 0 rfl rfl 1 (by decide) (htl _ fl_RX11_21) (fun _ h9 => h9) rfl dX11_gangs_81 ?_
          refine va_get (ci := 7) (v := .ref aW) (C := RX7) (T := TX7) (N := 5) hx hb htl inX7 hown hK hP 1 rfl rfl 0 (by decide) (htl _ fl_RX11_78) (fun _ h9 => h9) rfl dX11_gangs_84 ?_
          refine lv_aload_n hx hb dX11_gangs_87 rfl (lv_at hl 1 rfl) ?_
          refine va_get (ci := 11) (v := .ref aA) (C := RX11) (T := TX11) (N := 14) hx hb htl inX11 hown hK hP 0 rfl rfl 0 (by decide) (htl _ fl_RX11_10) (fun _ h9 => h9) rfl dX11_gangs_88 ?_
          refine lv_lload_n hx hb dX11_gangs_91 rfl (lv_at hl 2 rfl) ?_
          refine mi (wr := [(h0, .inr (11, [.ref aA, .ref aS, f_h0_2, f_h0_3, f_h0_4, f_h0_5, .ref aY, f_h0_7, f_h0_8, f_h0_9, f_h0_10, f_h0_11, .ref h1, .int lr])), (aS, .inr (7, [.ref aW, .ref aD, f_aS_2, f_aS_3, f_aS_4])), (aA, .inr (0, [f_aA_0, .ref aW, .null, f_aA_3, f_aA_4, f_aA_5, f_aA_6, f_aA_7, f_aA_8]))]) (mkV (rest := []) ⟨hx, hb, hml, hown, htl⟩ hN hK hP hD (c_X9_share_n l G cs aY aW aA a f_aY_0 f_aY_1 f_aY_2 f_aY_3 f_aY_4 f_aY_5 hd f_aY_7 hf f_aY_9 f_aY_10 f_aW_0 aC f_aW_2 f_aW_3 f_aW_4 f_aW_5 (.int (-1)) f_aC_0 f_aC_1 (df) (ff) _ hc0 (rng_c c_18 c_27)) [4, 2, 3, 5, 6] rfl rfl 0 9 rfl rfl (cV 3 htl lk_RX11_314 mI_X9_share mS_X9_share mN_RX9 mC_X9_share ok_X9_share rfl rfl ⟨(Nat.le_of_ble_eq_true rfl), (Nat.le_of_ble_eq_true rfl)⟩) rfl hl.1 rfl (Nat.le_of_ble_eq_true rfl) dX11_gangs_92 ⟨(Nat.le_of_ble_eq_true rfl), (Nat.le_of_ble_eq_true rfl)⟩) hP hD hS hA [4, 2, 3, 5, 6] [0, 1, 7] rfl rfl rfl (by decide) (fun r u_92 H locs hw hP hD hS => ?_)
          have hP : va_P G vwCl [(h0, .inr (11, [.ref aA, .ref aS, f_h0_2, f_h0_3, f_h0_4, f_h0_5, .ref aY, f_h0_7, f_h0_8, f_h0_9, f_h0_10, f_h0_11, .ref h1, .int lr])), (aS, .inr (7, [.ref aW, .ref aD, f_aS_2, f_aS_3, f_aS_4])), (aA, .inr (0, [f_aA_0, .ref aW, .null, f_aA_3, f_aA_4, f_aA_5, f_aA_6, f_aA_7, f_aA_8]))] H := hP
          have hD : va_D A [(h0, .inr (11, [.ref aA, .ref aS, f_h0_2, f_h0_3, f_h0_4, f_h0_5, .ref aY, f_h0_7, f_h0_8, f_h0_9, f_h0_10, f_h0_11, .ref h1, .int lr])), (aS, .inr (7, [.ref aW, .ref aD, f_aS_2, f_aS_3, f_aS_4])), (aA, .inr (0, [f_aA_0, .ref aW, .null, f_aA_3, f_aA_4, f_aA_5, f_aA_6, f_aA_7, f_aA_8]))] := hD
          obtain rfl : r = 0 := hw.1.trans (by first | decide +kernel | rfl)
          refine lv_if_ne (tgt := 100) hx hb dX11_gangs_95 (by decide) (fun h => absurd (by decide) h) (fun _ => ?_)
          refine lv_iconst (v := (-1)) hx hb dX11_gangs_98 (by decide) ?_
          exact W.iret (v := (-1)) hx hb hr (fun t ht hW => ⟨⟨(-1), (), rfl, (by unfold sp_X11_gangs_n; rw [if_neg c_18, if_pos c_27, if_neg c_36, if_neg c_47]), ⟨fun k q h => by simp at h, va_K.moved hW.alike hK, ⟨fun i j p q h => by simp at h, fun k q h => by simp at h⟩⟩⟩, hS.F ht⟩) hS.2.2 dX11_gangs_99
        · refine lv_iconst (v := (-1)) hx hb dX11_gangs_50 (by decide) ?_
          exact W.iret (v := (-1)) hx hb hr (fun t ht hW => ⟨⟨(-1), (), rfl, (by unfold sp_X11_gangs_n; rw [if_neg c_18, if_pos c_27, if_neg c_36, if_pos c_47]), ⟨fun k q h => by simp at h, va_K.moved hW.alike hK, ⟨fun i j p q h => by simp at h, fun k q h => by simp at h⟩⟩⟩, hS.F ht⟩) hS.2.2 dX11_gangs_51

set_option maxHeartbeats 1000000 in
set_option maxRecDepth 100000 in
theorem c_X12_weigh_n (l : Launch) (G : va_G) (cs : Nat → ClassId) (h0 : Nat) (b : Int32) (f_h0_0 : Value) (f_h0_1 : Value) (f_h0_2 : Value) (f_h0_3 : Value) (f_h0_4 : Value) (f_h0_5 : Value) (f_h0_6 : Value) (f_h0_7 : Value) (f_h0_8 : Value) (f_h0_9 : Value) (f_h0_10 : Value) (f_h0_11 : Value) (f_h0_12 : Value) (f_h0_13 : Value) (f_h0_14 : Value) (f_h0_15 : Value) (f_h0_16 : Value) (f_h0_17 : Value) (f_h0_18 : Value) (f_h0_19 : Value) (f_h0_20 : Value) (f_h0_21 : Value) (f_h0_22 : Value) (f_h0_23 : Value) (f_h0_24 : Value) (f_h0_25 : Value) (f_h0_26 : Value) (f_h0_27 : Value) (f_h0_28 : Value) (f_h0_29 : Value) (f_h0_30 : Value) (f_h0_31 : Value) (f_h0_32 : Value) (f_h0_33 : Value) (f_h0_34 : Value) (f_h0_35 : Value) (f_h0_36 : Value) (f_h0_37 : Value) (f_h0_38 : Value) (f_h0_39 : Value) (f_h0_40 : Value) (f_h0_41 : Value) (f_h0_42 : Value) (f_h0_43 : Value) (f_h0_44 : Value) (f_h0_45 : Value) (f_h0_47 : Value) (f_h0_48 : Value) (f_h0_49 : Value) (f_h0_50 : Value) (f_h0_51 : Value) (f_h0_52 : Value) (f_h0_53 : Value) (f_h0_54 : Value) (f_h0_55 : Value) (f_h0_56 : Value) (f_h0_57 : Value) (f_h0_58 : Value) (sz : Nat) (hb0 : ¬ 0 = b) : Met l yX12_weighGangs (Cond.code yX12_weighGangs cX12_weighGangs 6 none :: gW) ({ frames := 0, cells := 0, slots := 0, locals := 0 }) (va_Pc [.ref h0, .int 0, .int b] (Pre G cs [(h0, .inr (12, [f_h0_0, f_h0_1, f_h0_2, f_h0_3, f_h0_4, f_h0_5, f_h0_6, f_h0_7, f_h0_8, f_h0_9, f_h0_10, f_h0_11, f_h0_12, f_h0_13, f_h0_14, f_h0_15, f_h0_16, f_h0_17, f_h0_18, f_h0_19, f_h0_20, f_h0_21, f_h0_22, f_h0_23, f_h0_24, f_h0_25, f_h0_26, f_h0_27, f_h0_28, f_h0_29, f_h0_30, f_h0_31, f_h0_32, f_h0_33, f_h0_34, f_h0_35, f_h0_36, f_h0_37, f_h0_38, f_h0_39, f_h0_40, f_h0_41, f_h0_42, f_h0_43, f_h0_44, f_h0_45, .int 100000000, f_h0_47, f_h0_48, f_h0_49, f_h0_50, f_h0_51, f_h0_52, f_h0_53, f_h0_54, f_h0_55, f_h0_56, f_h0_57, f_h0_58]))] sz)) (va_Qv (fun (u : Unit) => True) (fun (u : Unit) t => Aft G cs (va_A [(h0, .inr (12, [f_h0_0, f_h0_1, f_h0_2, f_h0_3, f_h0_4, f_h0_5, f_h0_6, f_h0_7, f_h0_8, f_h0_9, f_h0_10, f_h0_11, f_h0_12, f_h0_13, f_h0_14, f_h0_15, f_h0_16, f_h0_17, f_h0_18, f_h0_19, f_h0_20, f_h0_21, f_h0_22, f_h0_23, f_h0_24, f_h0_25, f_h0_26, f_h0_27, f_h0_28, f_h0_29, f_h0_30, f_h0_31, f_h0_32, f_h0_33, f_h0_34, f_h0_35, f_h0_36, f_h0_37, f_h0_38, f_h0_39, f_h0_40, f_h0_41, f_h0_42, f_h0_43, f_h0_44, f_h0_45, .int 100000000, f_h0_47, f_h0_48, f_h0_49, f_h0_50, f_h0_51, f_h0_52, f_h0_53, f_h0_54, f_h0_55, f_h0_56, f_h0_57, f_h0_58]))] sz) [(h0, .inr (12, [f_h0_0, f_h0_1, f_h0_2, f_h0_3, f_h0_4, f_h0_5, f_h0_6, f_h0_7, f_h0_8, f_h0_9, f_h0_10, f_h0_11, f_h0_12, f_h0_13, f_h0_14, f_h0_15, f_h0_16, f_h0_17, f_h0_18, f_h0_19, f_h0_20, f_h0_21, f_h0_22, f_h0_23, f_h0_24, f_h0_25, f_h0_26, f_h0_27, f_h0_28, f_h0_29, f_h0_30, f_h0_31, f_h0_32, f_h0_33, f_h0_34, f_h0_35, f_h0_36, f_h0_37, f_h0_38, f_h0_39, f_h0_40, f_h0_41, f_h0_42, f_h0_43, f_h0_44, f_h0_45, .int 100000000, f_h0_47, f_h0_48, f_h0_49, f_h0_50, f_h0_51, f_h0_52, f_h0_53, f_h0_54, f_h0_55, f_h0_56, f_h0_57, f_h0_58]))] t) (va_A [(h0, .inr (12, [f_h0_0, f_h0_1, f_h0_2, f_h0_3, f_h0_4, f_h0_5, f_h0_6, f_h0_7, f_h0_8, f_h0_9, f_h0_10, f_h0_11, f_h0_12, f_h0_13, f_h0_14, f_h0_15, f_h0_16, f_h0_17, f_h0_18, f_h0_19, f_h0_20, f_h0_21, f_h0_22, f_h0_23, f_h0_24, f_h0_25, f_h0_26, f_h0_27, f_h0_28, f_h0_29, f_h0_30, f_h0_31, f_h0_32, f_h0_33, f_h0_34, f_h0_35, f_h0_36, f_h0_37, f_h0_38, f_h0_39, f_h0_40, f_h0_41, f_h0_42, f_h0_43, f_h0_44, f_h0_45, .int 100000000, f_h0_47, f_h0_48, f_h0_49, f_h0_50, f_h0_51, f_h0_52, f_h0_53, f_h0_54, f_h0_55, f_h0_56, f_h0_57, f_h0_58]))] sz)) 0 0 (va_A [(h0, .inr (12, [f_h0_0, f_h0_1, f_h0_2, f_h0_3, f_h0_4, f_h0_5, f_h0_6, f_h0_7, f_h0_8, f_h0_9, f_h0_10, f_h0_11, f_h0_12, f_h0_13, f_h0_14, f_h0_15, f_h0_16, f_h0_17, f_h0_18, f_h0_19, f_h0_20, f_h0_21, f_h0_22, f_h0_23, f_h0_24, f_h0_25, f_h0_26, f_h0_27, f_h0_28, f_h0_29, f_h0_30, f_h0_31, f_h0_32, f_h0_33, f_h0_34, f_h0_35, f_h0_36, f_h0_37, f_h0_38, f_h0_39, f_h0_40, f_h0_41, f_h0_42, f_h0_43, f_h0_44, f_h0_45, .int 100000000, f_h0_47, f_h0_48, f_h0_49, f_h0_50, f_h0_51, f_h0_52, f_h0_53, f_h0_54, f_h0_55, f_h0_56, f_h0_57, f_h0_58]))] sz) := by
  refine Met.ofW (cc := cX12_weighGangs) (maxL := 6) (ret := none) (by decide) rfl ?_
  intro p e s m args below meth c s₁ B hml hv
  obtain ⟨rfl, hsz, hP, hK, hD0, hN⟩ := hv
  have hx := B.exec
  have hb := B.bytes
  have hr := B.returns
  have hts := atoms_spec (ws := Cond.code yX12_weighGangs cX12_weighGangs 6 none :: gW) B.pre
  have htl : ∀ w ∈ gW, w.before _ s = true := fun w h => hts w (List.mem_cons_of_mem _ h)
  have hown : s.vm.findClass RX12 = some m.cls := findClass_of_methodNamed B.named
  have hlocks := B.notSynchronized
  subst hsz
  have hD := hD0.self (sz := s.heap.size)
  generalize hAe : va_A [(h0, .inr (12, [f_h0_0, f_h0_1, f_h0_2, f_h0_3, f_h0_4, f_h0_5, f_h0_6, f_h0_7, f_h0_8, f_h0_9, f_h0_10, f_h0_11, f_h0_12, f_h0_13, f_h0_14, f_h0_15, f_h0_16, f_h0_17, f_h0_18, f_h0_19, f_h0_20, f_h0_21, f_h0_22, f_h0_23, f_h0_24, f_h0_25, f_h0_26, f_h0_27, f_h0_28, f_h0_29, f_h0_30, f_h0_31, f_h0_32, f_h0_33, f_h0_34, f_h0_35, f_h0_36, f_h0_37, f_h0_38, f_h0_39, f_h0_40, f_h0_41, f_h0_42, f_h0_43, f_h0_44, f_h0_45, .int 100000000, f_h0_47, f_h0_48, f_h0_49, f_h0_50, f_h0_51, f_h0_52, f_h0_53, f_h0_54, f_h0_55, f_h0_56, f_h0_57, f_h0_58]))] s.heap.size = A at hD ⊢
  have hA : ∀ q : Nat, s.heap.size ≤ q → A q := fun q h => by rw [← hAe]; exact Or.inr h
  have hS : va_S A s.heap s.heap [] := va_S.rf
  have hl := lv_entry ([.ref h0, .int 0, .int b]) (n := 6) (Nat.le_of_ble_eq_true rfl)
  rw [lg_entry_eq]
  generalize (lg_sl ([.ref h0, .int 0, .int b]) ++ List.replicate (6 - (lg_sl ([.ref h0, .int 0, .int b])).length) Slot.unset).toArray = ls at hl ⊢
  have hl : lv_has ls 6 [(0, .ref h0), (1, .int 0), (2, .int b)] := hl
  refine lv_iconst (v := 0) hx hb dX12_weighGangs_0 (by decide) ?_
  refine lv_istore_n (lv' := [(3, .int 0), (0, .ref h0), (1, .int 0), (2, .int b)]) hx hb dX12_weighGangs_1 rfl hl (by decide) rfl (fun ls hl => ?_)
  refine lv_iconst (v := 0) hx hb dX12_weighGangs_2 (by decide) ?_
  refine lv_istore (lv' := [(4, .int 0), (3, .int 0), (0, .ref h0), (1, .int 0), (2, .int b)]) hx hb dX12_weighGangs_3 hl (by decide) rfl (fun ls hl => ?_)
  refine lv_iconst (v := 0) hx hb dX12_weighGangs_5 (by decide) ?_
  refine lv_istore (lv' := [(5, .int 0), (4, .int 0), (3, .int 0), (0, .ref h0), (1, .int 0), (2, .int b)]) hx hb dX12_weighGangs_6 hl (by decide) rfl (fun ls hl => ?_)
  refine lv_iload hx hb dX12_weighGangs_8 (lv_at hl 0 rfl) ?_
  refine lv_iload_n hx hb dX12_weighGangs_10 rfl (lv_at hl 4 rfl) ?_
  refine lv_icmp_ge (tgt := 77) hx hb dX12_weighGangs_11 (by decide) (fun _ => ?_) (fun h => absurd (by decide) h)
  refine lv_iload hx hb dX12_weighGangs_77 (lv_at hl 1 rfl) ?_
  refine lv_iload_n hx hb dX12_weighGangs_79 rfl (lv_at hl 5 rfl) ?_
  refine lv_icmp_ne (tgt := 146) hx hb dX12_weighGangs_80 (by decide) (fun _ => ?_) (fun h => absurd h hb0)
  have hP9 := hP.pick (wc := [(h0, .inr (12, [f_h0_0, f_h0_1, f_h0_2, f_h0_3, f_h0_4, f_h0_5, f_h0_6, f_h0_7, f_h0_8, f_h0_9, f_h0_10, f_h0_11, f_h0_12, f_h0_13, f_h0_14, f_h0_15, f_h0_16, f_h0_17, f_h0_18, f_h0_19, f_h0_20, f_h0_21, f_h0_22, f_h0_23, f_h0_24, f_h0_25, f_h0_26, f_h0_27, f_h0_28, f_h0_29, f_h0_30, f_h0_31, f_h0_32, f_h0_33, f_h0_34, f_h0_35, f_h0_36, f_h0_37, f_h0_38, f_h0_39, f_h0_40, f_h0_41, f_h0_42, f_h0_43, f_h0_44, f_h0_45, .int 100000000, f_h0_47, f_h0_48, f_h0_49, f_h0_50, f_h0_51, f_h0_52, f_h0_53, f_h0_54, f_h0_55, f_h0_56, f_h0_57, f_h0_58]))]) (is := [0]) rfl
  have hD9 := hD.sub (ws' := [(h0, .inr (12, [f_h0_0, f_h0_1, f_h0_2, f_h0_3, f_h0_4, f_h0_5, f_h0_6, f_h0_7, f_h0_8, f_h0_9, f_h0_10, f_h0_11, f_h0_12, f_h0_13, f_h0_14, f_h0_15, f_h0_16, f_h0_17, f_h0_18, f_h0_19, f_h0_20, f_h0_21, f_h0_22, f_h0_23, f_h0_24, f_h0_25, f_h0_26, f_h0_27, f_h0_28, f_h0_29, f_h0_30, f_h0_31, f_h0_32, f_h0_33, f_h0_34, f_h0_35, f_h0_36, f_h0_37, f_h0_38, f_h0_39, f_h0_40, f_h0_41, f_h0_42, f_h0_43, f_h0_44, f_h0_45, .int 100000000, f_h0_47, f_h0_48, f_h0_49, f_h0_50, f_h0_51, f_h0_52, f_h0_53, f_h0_54, f_h0_55, f_h0_56, f_h0_57, f_h0_58]))]) [0] rfl rfl
  exact W.vret hx hb hr (fun t ht hW => ⟨⟨(), rfl, trivial, ⟨by rw [ht]; exact hP9, va_K.moved hW.alike hK, hD9⟩⟩, hS.F ht⟩) hS.2.2 dX12_weighGangs_146

set_option maxHeartbeats 1000000 in
set_option maxRecDepth 100000 in
theorem c_X12_find_n (l : Launch) (G : va_G) (cs : Nat → ClassId) (h0 : Nat) (b : Int32) (f_h0_0 : Value) (f_h0_1 : Value) (f_h0_2 : Value) (ho : Nat) (f_h0_4 : Value) (f_h0_5 : Value) (f_h0_6 : Value) (f_h0_7 : Value) (f_h0_8 : Value) (f_h0_9 : Value) (f_h0_10 : Value) (f_h0_11 : Value) (f_h0_12 : Value) (f_h0_13 : Value) (f_h0_14 : Value) (f_h0_15 : Value) (f_h0_16 : Value) (f_h0_17 : Value) (f_h0_18 : Value) (f_h0_19 : Value) (f_h0_20 : Value) (f_h0_21 : Value) (f_h0_22 : Value) (f_h0_23 : Value) (f_h0_24 : Value) (f_h0_25 : Value) (f_h0_26 : Value) (f_h0_27 : Value) (f_h0_28 : Value) (f_h0_29 : Value) (f_h0_30 : Value) (f_h0_31 : Value) (f_h0_32 : Value) (f_h0_33 : Value) (f_h0_34 : Value) (f_h0_35 : Value) (f_h0_36 : Value) (f_h0_37 : Value) (f_h0_38 : Value) (f_h0_39 : Value) (f_h0_40 : Value) (f_h0_41 : Value) (f_h0_42 : Value) (f_h0_43 : Value) (hg : Nat) (f_h0_45 : Value) (f_h0_46 : Value) (f_h0_47 : Value) (f_h0_48 : Value) (f_h0_49 : Value) (f_h0_50 : Value) (f_h0_51 : Value) (f_h0_52 : Value) (f_h0_53 : Value) (f_h0_54 : Value) (f_h0_55 : Value) (f_h0_56 : Value) (f_h0_57 : Value) (f_h0_58 : Value) (gf : Nat → Int32) (sz : Nat) (hb0 : ¬ 0 = b) : Met l yX12_findGangs (Cond.code yX12_findGangs cX12_findGangs 4 none :: gW) ({ frames := 1, cells := 0, slots := 0, locals := 25 }) (va_Pc [.ref h0, .int b] (Pre G cs [(h0, .inr (12, [f_h0_0, f_h0_1, f_h0_2, .ref ho, f_h0_4, f_h0_5, f_h0_6, f_h0_7, f_h0_8, f_h0_9, f_h0_10, f_h0_11, f_h0_12, f_h0_13, f_h0_14, f_h0_15, f_h0_16, f_h0_17, f_h0_18, f_h0_19, f_h0_20, f_h0_21, f_h0_22, f_h0_23, f_h0_24, f_h0_25, f_h0_26, f_h0_27, f_h0_28, f_h0_29, f_h0_30, f_h0_31, f_h0_32, f_h0_33, f_h0_34, f_h0_35, f_h0_36, f_h0_37, f_h0_38, f_h0_39, f_h0_40, f_h0_41, f_h0_42, f_h0_43, .ref hg, f_h0_45, f_h0_46, f_h0_47, f_h0_48, f_h0_49, f_h0_50, f_h0_51, f_h0_52, f_h0_53, f_h0_54, f_h0_55, f_h0_56, f_h0_57, f_h0_58])), (ho, .inl (cs 0, 5650, .inl mRow)), (hg, .inl (cs 0, 7, .inl gf))] sz)) (va_Qv (fun (u : Unit) => True) (fun (u : Unit) t => Aft G cs (va_A [(h0, .inr (12, [f_h0_0, f_h0_1, f_h0_2, .ref ho, f_h0_4, f_h0_5, f_h0_6, f_h0_7, f_h0_8, f_h0_9, f_h0_10, f_h0_11, f_h0_12, f_h0_13, f_h0_14, f_h0_15, f_h0_16, f_h0_17, f_h0_18, f_h0_19, f_h0_20, f_h0_21, f_h0_22, f_h0_23, f_h0_24, f_h0_25, f_h0_26, f_h0_27, f_h0_28, f_h0_29, f_h0_30, f_h0_31, f_h0_32, f_h0_33, f_h0_34, f_h0_35, f_h0_36, f_h0_37, f_h0_38, f_h0_39, f_h0_40, f_h0_41, f_h0_42, f_h0_43, .ref hg, f_h0_45, f_h0_46, f_h0_47, f_h0_48, f_h0_49, f_h0_50, f_h0_51, f_h0_52, f_h0_53, f_h0_54, f_h0_55, f_h0_56, f_h0_57, f_h0_58])), (ho, .inl (cs 0, 5650, .inl mRow)), (hg, .inl (cs 0, 7, .inl gf))] sz) [(h0, .inr (12, [f_h0_0, f_h0_1, f_h0_2, .ref ho, f_h0_4, f_h0_5, f_h0_6, f_h0_7, f_h0_8, f_h0_9, f_h0_10, f_h0_11, f_h0_12, f_h0_13, f_h0_14, f_h0_15, f_h0_16, f_h0_17, f_h0_18, f_h0_19, f_h0_20, f_h0_21, f_h0_22, f_h0_23, f_h0_24, f_h0_25, f_h0_26, f_h0_27, f_h0_28, f_h0_29, f_h0_30, f_h0_31, f_h0_32, f_h0_33, f_h0_34, f_h0_35, f_h0_36, f_h0_37, f_h0_38, f_h0_39, f_h0_40, f_h0_41, f_h0_42, f_h0_43, .ref hg, f_h0_45, .int 100000000, f_h0_47, f_h0_48, f_h0_49, f_h0_50, f_h0_51, f_h0_52, f_h0_53, f_h0_54, f_h0_55, f_h0_56, f_h0_57, f_h0_58]))] t) (va_A [(h0, .inr (12, [f_h0_0, f_h0_1, f_h0_2, .ref ho, f_h0_4, f_h0_5, f_h0_6, f_h0_7, f_h0_8, f_h0_9, f_h0_10, f_h0_11, f_h0_12, f_h0_13, f_h0_14, f_h0_15, f_h0_16, f_h0_17, f_h0_18, f_h0_19, f_h0_20, f_h0_21, f_h0_22, f_h0_23, f_h0_24, f_h0_25, f_h0_26, f_h0_27, f_h0_28, f_h0_29, f_h0_30, f_h0_31, f_h0_32, f_h0_33, f_h0_34, f_h0_35, f_h0_36, f_h0_37, f_h0_38, f_h0_39, f_h0_40, f_h0_41, f_h0_42, f_h0_43, .ref hg, f_h0_45, f_h0_46, f_h0_47, f_h0_48, f_h0_49, f_h0_50, f_h0_51, f_h0_52, f_h0_53, f_h0_54, f_h0_55, f_h0_56, f_h0_57, f_h0_58])), (ho, .inl (cs 0, 5650, .inl mRow)), (hg, .inl (cs 0, 7, .inl gf))] sz)) 0 0 (va_A [(h0, .inr (12, [f_h0_0, f_h0_1, f_h0_2, .ref ho, f_h0_4, f_h0_5, f_h0_6, f_h0_7, f_h0_8, f_h0_9, f_h0_10, f_h0_11, f_h0_12, f_h0_13, f_h0_14, f_h0_15, f_h0_16, f_h0_17, f_h0_18, f_h0_19, f_h0_20, f_h0_21, f_h0_22, f_h0_23, f_h0_24, f_h0_25, f_h0_26, f_h0_27, f_h0_28, f_h0_29, f_h0_30, f_h0_31, f_h0_32, f_h0_33, f_h0_34, f_h0_35, f_h0_36, f_h0_37, f_h0_38, f_h0_39, f_h0_40, f_h0_41, f_h0_42, f_h0_43, .ref hg, f_h0_45, f_h0_46, f_h0_47, f_h0_48, f_h0_49, f_h0_50, f_h0_51, f_h0_52, f_h0_53, f_h0_54, f_h0_55, f_h0_56, f_h0_57, f_h0_58])), (ho, .inl (cs 0, 5650, .inl mRow)), (hg, .inl (cs 0, 7, .inl gf))] sz) := by
  refine Met.ofW (cc := cX12_findGangs) (maxL := 4) (ret := none) (by decide) rfl ?_
  intro p e s m args below meth c s₁ B hml hv
  obtain ⟨rfl, hsz, hP, hK, hD0, hN⟩ := hv
  have hx := B.exec
  have hb := B.bytes
  have hr := B.returns
  have hts := atoms_spec (ws := Cond.code yX12_findGangs cX12_findGangs 4 none :: gW) B.pre
  have htl : ∀ w ∈ gW, w.before _ s = true := fun w h => hts w (List.mem_cons_of_mem _ h)
  have hown : s.vm.findClass RX12 = some m.cls := findClass_of_methodNamed B.named
  have hlocks := B.notSynchronized
  subst hsz
  have hD := hD0.self (sz := s.heap.size)
  generalize hAe : va_A [(h0, .inr (12, [f_h0_0, f_h0_1, f_h0_2, .ref ho, f_h0_4, f_h0_5, f_h0_6, f_h0_7, f_h0_8, f_h0_9, f_h0_10, f_h0_11, f_h0_12, f_h0_13, f_h0_14, f_h0_15, f_h0_16, f_h0_17, f_h0_18, f_h0_19, f_h0_20, f_h0_21, f_h0_22, f_h0_23, f_h0_24, f_h0_25, f_h0_26, f_h0_27, f_h0_28, f_h0_29, f_h0_30, f_h0_31, f_h0_32, f_h0_33, f_h0_34, f_h0_35, f_h0_36, f_h0_37, f_h0_38, f_h0_39, f_h0_40, f_h0_41, f_h0_42, f_h0_43, .ref hg, f_h0_45, f_h0_46, f_h0_47, f_h0_48, f_h0_49, f_h0_50, f_h0_51, f_h0_52, f_h0_53, f_h0_54, f_h0_55, f_h0_56, f_h0_57, f_h0_58])), (ho, .inl (cs 0, 5650, .inl mRow)), (hg, .inl (cs 0, 7, .inl gf))] s.heap.size = A at hD ⊢
  have hA : ∀ q : Nat, s.heap.size ≤ q → A q := fun q h => by rw [← hAe]; exact Or.inr h
  have hS : va_S A s.heap s.heap [] := va_S.rf
  have hl := lv_entry ([.ref h0, .int b]) (n := 4) (Nat.le_of_ble_eq_true rfl)
  rw [lg_entry_eq]
  generalize (lg_sl ([.ref h0, .int b]) ++ List.replicate (4 - (lg_sl ([.ref h0, .int b])).length) Slot.unset).toArray = ls at hl ⊢
  have hl : lv_has ls 4 [(0, .ref h0), (1, .int b)] := hl
  refine lv_aload_n hx hb dX12_findGangs_0 rfl (lv_at hl 0 rfl) ?_
  refine va_get (ci := 12) (v := .ref ho) (C := RX12) (T := TX12) (N := 59) hx hb htl inX12 hown hK hP 0 rfl rfl 3 (by decide) (htl _ fl_RX12_13) (fun _ h9 => h9) rfl dX12_findGangs_1 ?_
  refine lv_iconst (v := 0) hx hb dX12_findGangs_4 (by decide) ?_
  refine va_iald hx hb hK hP 1 0 rfl rfl (by unfold vp_in; decide) dX12_findGangs_5 ?_
  refine lv_topi (fun xv ex => ?_)
  obtain rfl : xv = 0 := ex.trans (by first | exact pk_us | rfl | decide)
  refine lv_istore_n (lv' := [(2, .int 0), (0, .ref h0), (1, .int b)]) hx hb dX12_findGangs_6 rfl hl (by decide) rfl (fun ls hl => ?_)
  refine lv_aload_n hx hb dX12_findGangs_7 rfl (lv_at hl 1 rfl) ?_
  refine lv_ldcw hx hb hown (htl _ ct_RX12_505) dX12_findGangs_8 ?_
  refine va_put (ci := 12) (v := .int 100000000) (ty := .int) (C := RX12) (T := TX12) (N := 59) hx hb htl inX12 tyX12 tyX12_ok nmX12 hown hK hP hD hS 0 rfl rfl 46 (by decide) (htl _ fl_RX12_516) (fun _ h9 => h9) rfl (by decide +kernel) (by first | rfl | decide) (by first | rfl | decide) (Nat.le_of_ble_eq_true rfl) dX12_findGangs_11 (fun H locs hP hD hS => ?_)
  have hP : va_P G vwCl [(h0, .inr (12, [f_h0_0, f_h0_1, f_h0_2, .ref ho, f_h0_4, f_h0_5, f_h0_6, f_h0_7, f_h0_8, f_h0_9, f_h0_10, f_h0_11, f_h0_12, f_h0_13, f_h0_14, f_h0_15, f_h0_16, f_h0_17, f_h0_18, f_h0_19, f_h0_20, f_h0_21, f_h0_22, f_h0_23, f_h0_24, f_h0_25, f_h0_26, f_h0_27, f_h0_28, f_h0_29, f_h0_30, f_h0_31, f_h0_32, f_h0_33, f_h0_34, f_h0_35, f_h0_36, f_h0_37, f_h0_38, f_h0_39, f_h0_40, f_h0_41, f_h0_42, f_h0_43, .ref hg, f_h0_45, .int 100000000, f_h0_47, f_h0_48, f_h0_49, f_h0_50, f_h0_51, f_h0_52, f_h0_53, f_h0_54, f_h0_55, f_h0_56, f_h0_57, f_h0_58])), (ho, .inl (cs 0, 5650, .inl mRow)), (hg, .inl (cs 0, 7, .inl gf))] H := hP
  have hD : va_D A [(h0, .inr (12, [f_h0_0, f_h0_1, f_h0_2, .ref ho, f_h0_4, f_h0_5, f_h0_6, f_h0_7, f_h0_8, f_h0_9, f_h0_10, f_h0_11, f_h0_12, f_h0_13, f_h0_14, f_h0_15, f_h0_16, f_h0_17, f_h0_18, f_h0_19, f_h0_20, f_h0_21, f_h0_22, f_h0_23, f_h0_24, f_h0_25, f_h0_26, f_h0_27, f_h0_28, f_h0_29, f_h0_30, f_h0_31, f_h0_32, f_h0_33, f_h0_34, f_h0_35, f_h0_36, f_h0_37, f_h0_38, f_h0_39, f_h0_40, f_h0_41, f_h0_42, f_h0_43, .ref hg, f_h0_45, .int 100000000, f_h0_47, f_h0_48, f_h0_49, f_h0_50, f_h0_51, f_h0_52, f_h0_53, f_h0_54, f_h0_55, f_h0_56, f_h0_57, f_h0_58])), (ho, .inl (cs 0, 5650, .inl mRow)), (hg, .inl (cs 0, 7, .inl gf))] := hD
  refine lv_iconst (v := 0) hx hb dX12_findGangs_14 (by decide) ?_
  refine lv_istore_n (lv' := [(3, .int 0), (2, .int 0), (0, .ref h0), (1, .int b)]) hx hb dX12_findGangs_15 rfl hl (by decide) rfl (fun ls hl => ?_)
  refine lv_aload_n hx hb dX12_findGangs_16 rfl (lv_at hl 2 rfl) ?_
  refine va_get (ci := 12) (v := .ref hg) (C := RX12) (T := TX12) (N := 59) hx hb htl inX12 hown hK hP 0 rfl rfl 44 (by decide) (htl _ fl_RX12_121) (fun _ h9 => h9) rfl dX12_findGangs_17 ?_
  refine lv_iconst (v := 0) hx hb dX12_findGangs_20 (by decide) ?_
  refine lv_iconst (v := (-1)) hx hb dX12_findGangs_21 (by decide) ?_
  refine va_iast hx hb hK hP hD hS 2 0 rfl rfl (by unfold vp_in; decide) dX12_findGangs_22 (fun H locs hP hD hS => ?_)
  have hP : va_P G vwCl [(h0, .inr (12, [f_h0_0, f_h0_1, f_h0_2, .ref ho, f_h0_4, f_h0_5, f_h0_6, f_h0_7, f_h0_8, f_h0_9, f_h0_10, f_h0_11, f_h0_12, f_h0_13, f_h0_14, f_h0_15, f_h0_16, f_h0_17, f_h0_18, f_h0_19, f_h0_20, f_h0_21, f_h0_22, f_h0_23, f_h0_24, f_h0_25, f_h0_26, f_h0_27, f_h0_28, f_h0_29, f_h0_30, f_h0_31, f_h0_32, f_h0_33, f_h0_34, f_h0_35, f_h0_36, f_h0_37, f_h0_38, f_h0_39, f_h0_40, f_h0_41, f_h0_42, f_h0_43, .ref hg, f_h0_45, .int 100000000, f_h0_47, f_h0_48, f_h0_49, f_h0_50, f_h0_51, f_h0_52, f_h0_53, f_h0_54, f_h0_55, f_h0_56, f_h0_57, f_h0_58])), (ho, .inl (cs 0, 5650, .inl mRow)), (hg, .inl (cs 0, 7, .inl (upd gf 0 (-1))))] H := hP
  have hD : va_D A [(h0, .inr (12, [f_h0_0, f_h0_1, f_h0_2, .ref ho, f_h0_4, f_h0_5, f_h0_6, f_h0_7, f_h0_8, f_h0_9, f_h0_10, f_h0_11, f_h0_12, f_h0_13, f_h0_14, f_h0_15, f_h0_16, f_h0_17, f_h0_18, f_h0_19, f_h0_20, f_h0_21, f_h0_22, f_h0_23, f_h0_24, f_h0_25, f_h0_26, f_h0_27, f_h0_28, f_h0_29, f_h0_30, f_h0_31, f_h0_32, f_h0_33, f_h0_34, f_h0_35, f_h0_36, f_h0_37, f_h0_38, f_h0_39, f_h0_40, f_h0_41, f_h0_42, f_h0_43, .ref hg, f_h0_45, .int 100000000, f_h0_47, f_h0_48, f_h0_49, f_h0_50, f_h0_51, f_h0_52, f_h0_53, f_h0_54, f_h0_55, f_h0_56, f_h0_57, f_h0_58])), (ho, .inl (cs 0, 5650, .inl mRow)), (hg, .inl (cs 0, 7, .inl (upd gf 0 (-1))))] := hD
  refine lv_iload_n hx hb dX12_findGangs_23 rfl (lv_at hl 0 rfl) ?_
  refine lv_if_lt (tgt := 123) hx hb dX12_findGangs_24 (by decide) (fun h => absurd h (by decide)) (fun _ => ?_)
  refine lv_iload_n hx hb dX12_findGangs_27 rfl (lv_at hl 0 rfl) ?_
  refine lv_iload_n hx hb dX12_findGangs_28 rfl (lv_at hl 1 rfl) ?_
  refine lv_icmp_ne (tgt := 44) hx hb dX12_findGangs_29 (by decide) (fun h => absurd (by decide) h) (fun _ => ?_)
  refine lv_aload_n hx hb dX12_findGangs_32 rfl (lv_at hl 2 rfl) ?_
  refine lv_iload_n hx hb dX12_findGangs_33 rfl (lv_at hl 1 rfl) ?_
  refine lv_iload_n hx hb dX12_findGangs_34 rfl (lv_at hl 3 rfl) ?_
  refine mv (wr := [(ho, .inl (cs 0, 5650, .inl mRow)), (hg, .inl (cs 0, 7, .inl (upd gf 0 (-1))))]) (mkV (rest := []) ⟨hx, hb, hml, hown, htl⟩ hN hK hP hD (c_X12_weigh_n l G cs h0 b f_h0_0 f_h0_1 f_h0_2 (.ref ho) f_h0_4 f_h0_5 f_h0_6 f_h0_7 f_h0_8 f_h0_9 f_h0_10 f_h0_11 f_h0_12 f_h0_13 f_h0_14 f_h0_15 f_h0_16 f_h0_17 f_h0_18 f_h0_19 f_h0_20 f_h0_21 f_h0_22 f_h0_23 f_h0_24 f_h0_25 f_h0_26 f_h0_27 f_h0_28 f_h0_29 f_h0_30 f_h0_31 f_h0_32 f_h0_33 f_h0_34 f_h0_35 f_h0_36 f_h0_37 f_h0_38 f_h0_39 f_h0_40 f_h0_41 f_h0_42 f_h0_43 (.ref hg) f_h0_45 f_h0_47 f_h0_48 f_h0_49 f_h0_50 f_h0_51 f_h0_52 f_h0_53 f_h0_54 f_h0_55 f_h0_56 f_h0_57 f_h0_58 _ hb0) [0] rfl rfl 0 12 rfl rfl (cV 2 htl lk_RX12_519 mI_X12_weighGangs mS_X12_weighGangs mN_RX12 mC_X12_weighGangs ok_X12_weighGangs rfl rfl ⟨(Nat.le_of_ble_eq_true rfl), (Nat.le_of_ble_eq_true rfl)⟩) rfl hl.1 rfl (Nat.le_of_ble_eq_true rfl) dX12_findGangs_35 ⟨(Nat.le_of_ble_eq_true rfl), (Nat.le_of_ble_eq_true rfl)⟩) hP hD hS hA [0] [1, 2] rfl rfl rfl (by decide) (fun u_35 H locs hw hP hD hS => ?_)
  have hP : va_P G vwCl [(ho, .inl (cs 0, 5650, .inl mRow)), (hg, .inl (cs 0, 7, .inl (upd gf 0 (-1)))), (h0, .inr (12, [f_h0_0, f_h0_1, f_h0_2, .ref ho, f_h0_4, f_h0_5, f_h0_6, f_h0_7, f_h0_8, f_h0_9, f_h0_10, f_h0_11, f_h0_12, f_h0_13, f_h0_14, f_h0_15, f_h0_16, f_h0_17, f_h0_18, f_h0_19, f_h0_20, f_h0_21, f_h0_22, f_h0_23, f_h0_24, f_h0_25, f_h0_26, f_h0_27, f_h0_28, f_h0_29, f_h0_30, f_h0_31, f_h0_32, f_h0_33, f_h0_34, f_h0_35, f_h0_36, f_h0_37, f_h0_38, f_h0_39, f_h0_40, f_h0_41, f_h0_42, f_h0_43, .ref hg, f_h0_45, .int 100000000, f_h0_47, f_h0_48, f_h0_49, f_h0_50, f_h0_51, f_h0_52, f_h0_53, f_h0_54, f_h0_55, f_h0_56, f_h0_57, f_h0_58]))] H := hP
  have hD : va_D A [(ho, .inl (cs 0, 5650, .inl mRow)), (hg, .inl (cs 0, 7, .inl (upd gf 0 (-1)))), (h0, .inr (12, [f_h0_0, f_h0_1, f_h0_2, .ref ho, f_h0_4, f_h0_5, f_h0_6, f_h0_7, f_h0_8, f_h0_9, f_h0_10, f_h0_11, f_h0_12, f_h0_13, f_h0_14, f_h0_15, f_h0_16, f_h0_17, f_h0_18, f_h0_19, f_h0_20, f_h0_21, f_h0_22, f_h0_23, f_h0_24, f_h0_25, f_h0_26, f_h0_27, f_h0_28, f_h0_29, f_h0_30, f_h0_31, f_h0_32, f_h0_33, f_h0_34, f_h0_35, f_h0_36, f_h0_37, f_h0_38, f_h0_39, f_h0_40, f_h0_41, f_h0_42, f_h0_43, .ref hg, f_h0_45, .int 100000000, f_h0_47, f_h0_48, f_h0_49, f_h0_50, f_h0_51, f_h0_52, f_h0_53, f_h0_54, f_h0_55, f_h0_56, f_h0_57, f_h0_58]))] := hD
  refine lv_iinc (v := (-1)) (lv' := [(3, .int (-1)), (2, .int 0), (0, .ref h0), (1, .int b)]) hx hb dX12_findGangs_38 hl (k := 0) rfl (by first | rfl | decide) (by decide) rfl (fun ls hl => ?_)
  refine lv_goto (tgt := 23) hx hb dX12_findGangs_41 (by decide) ?_
  refine lv_iload_n hx hb dX12_findGangs_23 rfl (lv_at hl 0 rfl) ?_
  refine lv_if_lt (tgt := 123) hx hb dX12_findGangs_24 (by decide) (fun _ => ?_) (fun h => absurd (by decide) h)
  have hP9 := hP.pick (wc := [(h0, .inr (12, [f_h0_0, f_h0_1, f_h0_2, .ref ho, f_h0_4, f_h0_5, f_h0_6, f_h0_7, f_h0_8, f_h0_9, f_h0_10, f_h0_11, f_h0_12, f_h0_13, f_h0_14, f_h0_15, f_h0_16, f_h0_17, f_h0_18, f_h0_19, f_h0_20, f_h0_21, f_h0_22, f_h0_23, f_h0_24, f_h0_25, f_h0_26, f_h0_27, f_h0_28, f_h0_29, f_h0_30, f_h0_31, f_h0_32, f_h0_33, f_h0_34, f_h0_35, f_h0_36, f_h0_37, f_h0_38, f_h0_39, f_h0_40, f_h0_41, f_h0_42, f_h0_43, .ref hg, f_h0_45, .int 100000000, f_h0_47, f_h0_48, f_h0_49, f_h0_50, f_h0_51, f_h0_52, f_h0_53, f_h0_54, f_h0_55, f_h0_56, f_h0_57, f_h0_58]))]) (is := [2]) rfl
  have hD9 := hD.sub (ws' := [(h0, .inr (12, [f_h0_0, f_h0_1, f_h0_2, .ref ho, f_h0_4, f_h0_5, f_h0_6, f_h0_7, f_h0_8, f_h0_9, f_h0_10, f_h0_11, f_h0_12, f_h0_13, f_h0_14, f_h0_15, f_h0_16, f_h0_17, f_h0_18, f_h0_19, f_h0_20, f_h0_21, f_h0_22, f_h0_23, f_h0_24, f_h0_25, f_h0_26, f_h0_27, f_h0_28, f_h0_29, f_h0_30, f_h0_31, f_h0_32, f_h0_33, f_h0_34, f_h0_35, f_h0_36, f_h0_37, f_h0_38, f_h0_39, f_h0_40, f_h0_41, f_h0_42, f_h0_43, .ref hg, f_h0_45, .int 100000000, f_h0_47, f_h0_48, f_h0_49, f_h0_50, f_h0_51, f_h0_52, f_h0_53, f_h0_54, f_h0_55, f_h0_56, f_h0_57, f_h0_58]))]) [2] rfl rfl
  exact W.vret hx hb hr (fun t ht hW => ⟨⟨(), rfl, trivial, ⟨by rw [ht]; exact hP9, va_K.moved hW.alike hK, hD9⟩⟩, hS.F ht⟩) hS.2.2 dX12_findGangs_123

set_option maxHeartbeats 1000000 in
set_option maxRecDepth 100000 in
theorem lp_mgangs (l : Launch) (G : va_G) (cs : Nat → ClassId) (h0 : Nat) (a : Int64) (b : Int32) (f_h0_0 : Value) (f_h0_1 : Value) (f_h0_2 : Value) (ho : Nat) (f_h0_4 : Value) (f_h0_5 : Value) (f_h0_6 : Value) (f_h0_7 : Value) (f_h0_8 : Value) (f_h0_9 : Value) (f_h0_10 : Value) (f_h0_11 : Value) (f_h0_12 : Value) (f_h0_13 : Value) (f_h0_14 : Value) (f_h0_15 : Value) (f_h0_16 : Value) (f_h0_17 : Value) (f_h0_18 : Value) (f_h0_19 : Value) (f_h0_20 : Value) (f_h0_21 : Value) (f_h0_22 : Value) (f_h0_23 : Value) (f_h0_24 : Value) (f_h0_25 : Value) (f_h0_26 : Value) (f_h0_27 : Value) (f_h0_28 : Value) (f_h0_29 : Value) (f_h0_30 : Value) (f_h0_31 : Value) (f_h0_32 : Value) (f_h0_33 : Value) (f_h0_34 : Value) (f_h0_35 : Value) (f_h0_36 : Value) (f_h0_37 : Value) (f_h0_38 : Value) (f_h0_39 : Value) (f_h0_40 : Value) (f_h0_41 : Value) (h5 : Nat) (f_h0_43 : Value) (hg : Nat) (f_h0_45 : Value) (f_h0_46 : Value) (f_h0_47 : Value) (f_h0_48 : Value) (f_h0_49 : Value) (f_h0_50 : Value) (f_h0_51 : Value) (f_h0_52 : Value) (f_h0_53 : Value) (f_h0_54 : Value) (f_h0_55 : Value) (f_h0_56 : Value) (f_h0_57 : Value) (f_h0_58 : Value) (g5 : Nat → Int32) (gf : Nat → Int32) (hc0 : ¬ a = 0) (hr0 : rng a) (h60 : ¬ 6 < onc a 40) {p : Program} {e : Env} {s : State} {m : MethodId} {args : Array Value} {below : List Frame} {meth : Method} {c : Code} {Q : State → Prop} {A : Nat → Prop} {H0 : Heap} (hx : p.tables.exec = Jvm.exec) (hb : c.code = cX12_gangs) (hml : c.maxLocals = 7) (hown : s.vm.findClass RX12 = some m.cls) (htl : ∀ w ∈ gW, w.before args s = true) (hN : NW s) (hK : va_K G vwCl (tyL cs) s) (hA : ∀ q, H0.size ≤ q → A q) (K : ∀ (g : Nat → Int32) (H : Heap) (locs : List Loc) (ls : Array Slot), va_P G vwCl [(h0, .inr (12, [.int 0, f_h0_1, f_h0_2, .ref ho, f_h0_4, f_h0_5, f_h0_6, f_h0_7, f_h0_8, f_h0_9, f_h0_10, f_h0_11, f_h0_12, f_h0_13, f_h0_14, f_h0_15, f_h0_16, f_h0_17, f_h0_18, f_h0_19, f_h0_20, f_h0_21, f_h0_22, f_h0_23, f_h0_24, f_h0_25, f_h0_26, f_h0_27, f_h0_28, f_h0_29, f_h0_30, f_h0_31, f_h0_32, f_h0_33, f_h0_34, f_h0_35, f_h0_36, f_h0_37, f_h0_38, f_h0_39, f_h0_40, f_h0_41, .ref h5, f_h0_43, .ref hg, f_h0_45, f_h0_46, f_h0_47, f_h0_48, f_h0_49, f_h0_50, f_h0_51, f_h0_52, f_h0_53, f_h0_54, f_h0_55, f_h0_56, f_h0_57, f_h0_58])), (ho, .inl (cs 0, 5650, .inl mRow)), (h5, .inl (cs 0, 6, .inl g)), (hg, .inl (cs 0, 7, .inl gf))] H → va_D A [(h0, .inr (12, [.int 0, f_h0_1, f_h0_2, .ref ho, f_h0_4, f_h0_5, f_h0_6, f_h0_7, f_h0_8, f_h0_9, f_h0_10, f_h0_11, f_h0_12, f_h0_13, f_h0_14, f_h0_15, f_h0_16, f_h0_17, f_h0_18, f_h0_19, f_h0_20, f_h0_21, f_h0_22, f_h0_23, f_h0_24, f_h0_25, f_h0_26, f_h0_27, f_h0_28, f_h0_29, f_h0_30, f_h0_31, f_h0_32, f_h0_33, f_h0_34, f_h0_35, f_h0_36, f_h0_37, f_h0_38, f_h0_39, f_h0_40, f_h0_41, .ref h5, f_h0_43, .ref hg, f_h0_45, f_h0_46, f_h0_47, f_h0_48, f_h0_49, f_h0_50, f_h0_51, f_h0_52, f_h0_53, f_h0_54, f_h0_55, f_h0_56, f_h0_57, f_h0_58])), (ho, .inl (cs 0, 5650, .inl mRow)), (h5, .inl (cs 0, 6, .inl g)), (hg, .inl (cs 0, 7, .inl gf))] → va_S A H0 H locs → lv_has ls 7 [(0, .ref h0), (1, .long a), (3, .int b), (4, .int (onc a 40)), (5, .int (nI 40))] → W p l e (headSpec (Cond.code yX12_gangs cX12_gangs 7 (some .int) :: gW) ({ frames := 2, cells := 0, slots := 0, locals := 48 })).room s m args below meth c H locs 0 0 Q (F0 m 83 ls [])) : ∀ (n i : Nat), i + n = 40 → ∀ (g : Nat → Int32) (H : Heap) (locs : List Loc) (ls : Array Slot), va_P G vwCl [(h0, .inr (12, [.int 0, f_h0_1, f_h0_2, .ref ho, f_h0_4, f_h0_5, f_h0_6, f_h0_7, f_h0_8, f_h0_9, f_h0_10, f_h0_11, f_h0_12, f_h0_13, f_h0_14, f_h0_15, f_h0_16, f_h0_17, f_h0_18, f_h0_19, f_h0_20, f_h0_21, f_h0_22, f_h0_23, f_h0_24, f_h0_25, f_h0_26, f_h0_27, f_h0_28, f_h0_29, f_h0_30, f_h0_31, f_h0_32, f_h0_33, f_h0_34, f_h0_35, f_h0_36, f_h0_37, f_h0_38, f_h0_39, f_h0_40, f_h0_41, .ref h5, f_h0_43, .ref hg, f_h0_45, f_h0_46, f_h0_47, f_h0_48, f_h0_49, f_h0_50, f_h0_51, f_h0_52, f_h0_53, f_h0_54, f_h0_55, f_h0_56, f_h0_57, f_h0_58])), (ho, .inl (cs 0, 5650, .inl mRow)), (h5, .inl (cs 0, 6, .inl g)), (hg, .inl (cs 0, 7, .inl gf))] H → va_D A [(h0, .inr (12, [.int 0, f_h0_1, f_h0_2, .ref ho, f_h0_4, f_h0_5, f_h0_6, f_h0_7, f_h0_8, f_h0_9, f_h0_10, f_h0_11, f_h0_12, f_h0_13, f_h0_14, f_h0_15, f_h0_16, f_h0_17, f_h0_18, f_h0_19, f_h0_20, f_h0_21, f_h0_22, f_h0_23, f_h0_24, f_h0_25, f_h0_26, f_h0_27, f_h0_28, f_h0_29, f_h0_30, f_h0_31, f_h0_32, f_h0_33, f_h0_34, f_h0_35, f_h0_36, f_h0_37, f_h0_38, f_h0_39, f_h0_40, f_h0_41, .ref h5, f_h0_43, .ref hg, f_h0_45, f_h0_46, f_h0_47, f_h0_48, f_h0_49, f_h0_50, f_h0_51, f_h0_52, f_h0_53, f_h0_54, f_h0_55, f_h0_56, f_h0_57, f_h0_58])), (ho, .inl (cs 0, 5650, .inl mRow)), (h5, .inl (cs 0, 6, .inl g)), (hg, .inl (cs 0, 7, .inl gf))] → va_S A H0 H locs → lv_has ls 7 [(0, .ref h0), (1, .long a), (3, .int b), (4, .int (onc a i)), (5, .int (nI i))] → W p l e (headSpec (Cond.code yX12_gangs cX12_gangs 7 (some .int) :: gW) ({ frames := 2, cells := 0, slots := 0, locals := 48 })).room s m args below meth c H locs 0 0 Q (F0 m 49 ls []) := by
  intro n
  induction n with
  | zero =>
    intro i hi g H locs ls hP hD hS hl
    obtain rfl : i = 40 := by omega
    refine lv_iload hx hb dX12_gangs_49 (lv_at hl 4 rfl) ?_
    refine lv_bipush (v := 40) hx hb dX12_gangs_51 (by decide) ?_
    refine lv_icmp_ge (tgt := 83) hx hb dX12_gangs_53 (by decide) (fun _ => ?_) (fun h => absurd (by decide) h)
    exact K (g) H locs ls (hP.pick (is := [0, 1, 2, 3]) rfl) (hD.sub [0, 1, 2, 3] rfl rfl) hS (lv_sub hl [0, 1, 2, 3, 4] rfl)
  | succ n ih =>
    intro i hi g H locs ls hP hD hS hl
    refine lv_iload hx hb dX12_gangs_49 (lv_at hl 4 rfl) ?_
    refine lv_bipush (v := 40) hx hb dX12_gangs_51 (by decide) ?_
    refine lv_icmp_ge (tgt := 83) hx hb dX12_gangs_53 (by decide) (fun h => absurd h (nI_ge (a := i) (b := 40) (by omega) (by decide))) (fun _ => ?_)
    refine lv_lload_n hx hb dX12_gangs_56 rfl (lv_at hl 1 rfl) ?_
    refine lv_iload hx hb dX12_gangs_57 (lv_at hl 4 rfl) ?_
    refine vp_callSi (mkSr (rest := []) ⟨hx, hb, hml, hown, htl⟩ hN hK (c_X12_is l G cs a (nI i)) (cS 2 htl lk_RX12_159 mT_X12_is mN_RX12 mC_X12_is ok_X12_is rfl rfl ⟨(Nat.le_of_ble_eq_true rfl), (Nat.le_of_ble_eq_true rfl)⟩) rfl hl.1 rfl (Nat.le_of_ble_eq_true rfl) dX12_gangs_59 ⟨(Nat.le_of_ble_eq_true rfl), (Nat.le_of_ble_eq_true rfl)⟩) (fun r hw => ?_)
    obtain ⟨rfl, hz_1001⟩ := hw
    refine lv_if_eq (tgt := 77) hx hb dX12_gangs_62 (by decide) (fun c_62 => ?_) (fun c_62 => ?_)
    · refine lv_iinc (v := ((nI i) + 1)) (lv' := [(5, .int ((nI i) + 1)), (0, .ref h0), (1, .long a), (3, .int b), (4, .int (onc a i))]) hx hb dX12_gangs_77 hl (k := 4) rfl (by first | rfl | decide) (by decide) rfl (fun ls hl => ?_)
      refine lv_goto (tgt := 49) hx hb dX12_gangs_80 (by decide) ?_
      rw [nI_1] at hl
      rw [← on_00 c_62] at hl
      exact ih (i + 1) (by omega) (g) H locs ls (hP.pick (is := [0, 1, 2, 3]) rfl) (hD.sub [0, 1, 2, 3] rfl rfl) hS (lv_sub hl [1, 2, 3, 4, 0] rfl)
    · refine lv_aload_n hx hb dX12_gangs_65 rfl (lv_at hl 0 rfl) ?_
      refine va_get (ci := 12) (v := .ref h5) (C := RX12) (T := TX12) (N := 59) hx hb htl inX12 hown hK hP 0 rfl rfl 42 (by decide) (htl _ fl_RX12_115) (fun _ h9 => h9) rfl dX12_gangs_66 ?_
      refine lv_iload hx hb dX12_gangs_69 (lv_at hl 3 rfl) ?_
      refine lv_iload hx hb dX12_gangs_71 (lv_at hl 4 rfl) ?_
      refine va_iast hx hb hK hP hD hS 2 0 rfl rfl (on_in hr0 h60 c_62 (by omega)) dX12_gangs_73 (fun H locs hP hD hS => ?_)
      have hP : va_P G vwCl [(h0, .inr (12, [.int 0, f_h0_1, f_h0_2, .ref ho, f_h0_4, f_h0_5, f_h0_6, f_h0_7, f_h0_8, f_h0_9, f_h0_10, f_h0_11, f_h0_12, f_h0_13, f_h0_14, f_h0_15, f_h0_16, f_h0_17, f_h0_18, f_h0_19, f_h0_20, f_h0_21, f_h0_22, f_h0_23, f_h0_24, f_h0_25, f_h0_26, f_h0_27, f_h0_28, f_h0_29, f_h0_30, f_h0_31, f_h0_32, f_h0_33, f_h0_34, f_h0_35, f_h0_36, f_h0_37, f_h0_38, f_h0_39, f_h0_40, f_h0_41, .ref h5, f_h0_43, .ref hg, f_h0_45, f_h0_46, f_h0_47, f_h0_48, f_h0_49, f_h0_50, f_h0_51, f_h0_52, f_h0_53, f_h0_54, f_h0_55, f_h0_56, f_h0_57, f_h0_58])), (ho, .inl (cs 0, 5650, .inl mRow)), (h5, .inl (cs 0, 6, .inl (upd g (onc a i).toNatClampNeg (nI i)))), (hg, .inl (cs 0, 7, .inl gf))] H := hP
      have hD : va_D A [(h0, .inr (12, [.int 0, f_h0_1, f_h0_2, .ref ho, f_h0_4, f_h0_5, f_h0_6, f_h0_7, f_h0_8, f_h0_9, f_h0_10, f_h0_11, f_h0_12, f_h0_13, f_h0_14, f_h0_15, f_h0_16, f_h0_17, f_h0_18, f_h0_19, f_h0_20, f_h0_21, f_h0_22, f_h0_23, f_h0_24, f_h0_25, f_h0_26, f_h0_27, f_h0_28, f_h0_29, f_h0_30, f_h0_31, f_h0_32, f_h0_33, f_h0_34, f_h0_35, f_h0_36, f_h0_37, f_h0_38, f_h0_39, f_h0_40, f_h0_41, .ref h5, f_h0_43, .ref hg, f_h0_45, f_h0_46, f_h0_47, f_h0_48, f_h0_49, f_h0_50, f_h0_51, f_h0_52, f_h0_53, f_h0_54, f_h0_55, f_h0_56, f_h0_57, f_h0_58])), (ho, .inl (cs 0, 5650, .inl mRow)), (h5, .inl (cs 0, 6, .inl (upd g (onc a i).toNatClampNeg (nI i)))), (hg, .inl (cs 0, 7, .inl gf))] := hD
      refine lv_iinc (v := ((onc a i) + 1)) (lv' := [(4, .int ((onc a i) + 1)), (0, .ref h0), (1, .long a), (3, .int b), (5, .int (nI i))]) hx hb dX12_gangs_74 hl (k := 3) rfl (by first | rfl | decide) (by decide) rfl (fun ls hl => ?_)
      refine lv_iinc (v := ((nI i) + 1)) (lv' := [(5, .int ((nI i) + 1)), (4, .int ((onc a i) + 1)), (0, .ref h0), (1, .long a), (3, .int b)]) hx hb dX12_gangs_77 hl (k := 4) rfl (by first | rfl | decide) (by decide) rfl (fun ls hl => ?_)
      refine lv_goto (tgt := 49) hx hb dX12_gangs_80 (by decide) ?_
      rw [nI_1] at hl
      rw [← on_1 c_62] at hl
      exact ih (i + 1) (by omega) ((upd g (onc a i).toNatClampNeg (nI i))) H locs ls (hP.pick (is := [0, 1, 2, 3]) rfl) (hD.sub [0, 1, 2, 3] rfl rfl) hS (lv_sub hl [2, 3, 4, 1, 0] rfl)

def sp_X12_gangs_n (a : Int64) (b : Int32) : Int32 := if (sp_X12_in a 0 1099511627775) = 0 then (-1) else (if 6 < (sp_X12_ones a) then (-1) else (if (sp_X12_in b.toInt64 0 0) = 0 then (-1) else (-1)))
set_option maxHeartbeats 1000000 in
set_option maxRecDepth 100000 in
theorem c_X12_gangs_n (l : Launch) (G : va_G) (cs : Nat → ClassId) (h0 : Nat) (a : Int64) (b : Int32) (f_h0_0 : Value) (f_h0_1 : Value) (f_h0_2 : Value) (ho : Nat) (f_h0_4 : Value) (f_h0_5 : Value) (f_h0_6 : Value) (f_h0_7 : Value) (f_h0_8 : Value) (f_h0_9 : Value) (f_h0_10 : Value) (f_h0_11 : Value) (f_h0_12 : Value) (f_h0_13 : Value) (f_h0_14 : Value) (f_h0_15 : Value) (f_h0_16 : Value) (f_h0_17 : Value) (f_h0_18 : Value) (f_h0_19 : Value) (f_h0_20 : Value) (f_h0_21 : Value) (f_h0_22 : Value) (f_h0_23 : Value) (f_h0_24 : Value) (f_h0_25 : Value) (f_h0_26 : Value) (f_h0_27 : Value) (f_h0_28 : Value) (f_h0_29 : Value) (f_h0_30 : Value) (f_h0_31 : Value) (f_h0_32 : Value) (f_h0_33 : Value) (f_h0_34 : Value) (f_h0_35 : Value) (f_h0_36 : Value) (f_h0_37 : Value) (f_h0_38 : Value) (f_h0_39 : Value) (f_h0_40 : Value) (f_h0_41 : Value) (h5 : Nat) (f_h0_43 : Value) (hg : Nat) (f_h0_45 : Value) (f_h0_46 : Value) (f_h0_47 : Value) (f_h0_48 : Value) (f_h0_49 : Value) (f_h0_50 : Value) (f_h0_51 : Value) (f_h0_52 : Value) (f_h0_53 : Value) (f_h0_54 : Value) (f_h0_55 : Value) (f_h0_56 : Value) (f_h0_57 : Value) (f_h0_58 : Value) (g5 : Nat → Int32) (gf : Nat → Int32) (sz : Nat) (hc0 : ¬ a = 0) : Met l yX12_gangs (Cond.code yX12_gangs cX12_gangs 7 (some .int) :: gW) ({ frames := 2, cells := 0, slots := 0, locals := 48 }) (va_Pc [.ref h0, .long a, .int b] (Pre G cs [(h0, .inr (12, [f_h0_0, f_h0_1, f_h0_2, .ref ho, f_h0_4, f_h0_5, f_h0_6, f_h0_7, f_h0_8, f_h0_9, f_h0_10, f_h0_11, f_h0_12, f_h0_13, f_h0_14, f_h0_15, f_h0_16, f_h0_17, f_h0_18, f_h0_19, f_h0_20, f_h0_21, f_h0_22, f_h0_23, f_h0_24, f_h0_25, f_h0_26, f_h0_27, f_h0_28, f_h0_29, f_h0_30, f_h0_31, f_h0_32, f_h0_33, f_h0_34, f_h0_35, f_h0_36, f_h0_37, f_h0_38, f_h0_39, f_h0_40, f_h0_41, .ref h5, f_h0_43, .ref hg, f_h0_45, f_h0_46, f_h0_47, f_h0_48, f_h0_49, f_h0_50, f_h0_51, f_h0_52, f_h0_53, f_h0_54, f_h0_55, f_h0_56, f_h0_57, f_h0_58])), (ho, .inl (cs 0, 5650, .inl mRow)), (h5, .inl (cs 0, 6, .inl g5)), (hg, .inl (cs 0, 7, .inl gf))] sz)) (va_Qi (fun r (u : Unit) => r = sp_X12_gangs_n a b) (fun (u : Unit) t => Aft G cs (va_A [(h0, .inr (12, [f_h0_0, f_h0_1, f_h0_2, .ref ho, f_h0_4, f_h0_5, f_h0_6, f_h0_7, f_h0_8, f_h0_9, f_h0_10, f_h0_11, f_h0_12, f_h0_13, f_h0_14, f_h0_15, f_h0_16, f_h0_17, f_h0_18, f_h0_19, f_h0_20, f_h0_21, f_h0_22, f_h0_23, f_h0_24, f_h0_25, f_h0_26, f_h0_27, f_h0_28, f_h0_29, f_h0_30, f_h0_31, f_h0_32, f_h0_33, f_h0_34, f_h0_35, f_h0_36, f_h0_37, f_h0_38, f_h0_39, f_h0_40, f_h0_41, .ref h5, f_h0_43, .ref hg, f_h0_45, f_h0_46, f_h0_47, f_h0_48, f_h0_49, f_h0_50, f_h0_51, f_h0_52, f_h0_53, f_h0_54, f_h0_55, f_h0_56, f_h0_57, f_h0_58])), (ho, .inl (cs 0, 5650, .inl mRow)), (h5, .inl (cs 0, 6, .inl g5)), (hg, .inl (cs 0, 7, .inl gf))] sz) [] t) (va_A [(h0, .inr (12, [f_h0_0, f_h0_1, f_h0_2, .ref ho, f_h0_4, f_h0_5, f_h0_6, f_h0_7, f_h0_8, f_h0_9, f_h0_10, f_h0_11, f_h0_12, f_h0_13, f_h0_14, f_h0_15, f_h0_16, f_h0_17, f_h0_18, f_h0_19, f_h0_20, f_h0_21, f_h0_22, f_h0_23, f_h0_24, f_h0_25, f_h0_26, f_h0_27, f_h0_28, f_h0_29, f_h0_30, f_h0_31, f_h0_32, f_h0_33, f_h0_34, f_h0_35, f_h0_36, f_h0_37, f_h0_38, f_h0_39, f_h0_40, f_h0_41, .ref h5, f_h0_43, .ref hg, f_h0_45, f_h0_46, f_h0_47, f_h0_48, f_h0_49, f_h0_50, f_h0_51, f_h0_52, f_h0_53, f_h0_54, f_h0_55, f_h0_56, f_h0_57, f_h0_58])), (ho, .inl (cs 0, 5650, .inl mRow)), (h5, .inl (cs 0, 6, .inl g5)), (hg, .inl (cs 0, 7, .inl gf))] sz)) 0 0 (va_A [(h0, .inr (12, [f_h0_0, f_h0_1, f_h0_2, .ref ho, f_h0_4, f_h0_5, f_h0_6, f_h0_7, f_h0_8, f_h0_9, f_h0_10, f_h0_11, f_h0_12, f_h0_13, f_h0_14, f_h0_15, f_h0_16, f_h0_17, f_h0_18, f_h0_19, f_h0_20, f_h0_21, f_h0_22, f_h0_23, f_h0_24, f_h0_25, f_h0_26, f_h0_27, f_h0_28, f_h0_29, f_h0_30, f_h0_31, f_h0_32, f_h0_33, f_h0_34, f_h0_35, f_h0_36, f_h0_37, f_h0_38, f_h0_39, f_h0_40, f_h0_41, .ref h5, f_h0_43, .ref hg, f_h0_45, f_h0_46, f_h0_47, f_h0_48, f_h0_49, f_h0_50, f_h0_51, f_h0_52, f_h0_53, f_h0_54, f_h0_55, f_h0_56, f_h0_57, f_h0_58])), (ho, .inl (cs 0, 5650, .inl mRow)), (h5, .inl (cs 0, 6, .inl g5)), (hg, .inl (cs 0, 7, .inl gf))] sz) := by
  refine Met.ofW (cc := cX12_gangs) (maxL := 7) (ret := (some .int)) (by decide) rfl ?_
  intro p e s m args below meth c s₁ B hml hv
  obtain ⟨rfl, hsz, hP, hK, hD0, hN⟩ := hv
  have hx := B.exec
  have hb := B.bytes
  have hr := B.returns
  have hts := atoms_spec (ws := Cond.code yX12_gangs cX12_gangs 7 (some .int) :: gW) B.pre
  have htl : ∀ w ∈ gW, w.before _ s = true := fun w h => hts w (List.mem_cons_of_mem _ h)
  have hown : s.vm.findClass RX12 = some m.cls := findClass_of_methodNamed B.named
  have hlocks := B.notSynchronized
  subst hsz
  have hD := hD0.self (sz := s.heap.size)
  generalize hAe : va_A [(h0, .inr (12, [f_h0_0, f_h0_1, f_h0_2, .ref ho, f_h0_4, f_h0_5, f_h0_6, f_h0_7, f_h0_8, f_h0_9, f_h0_10, f_h0_11, f_h0_12, f_h0_13, f_h0_14, f_h0_15, f_h0_16, f_h0_17, f_h0_18, f_h0_19, f_h0_20, f_h0_21, f_h0_22, f_h0_23, f_h0_24, f_h0_25, f_h0_26, f_h0_27, f_h0_28, f_h0_29, f_h0_30, f_h0_31, f_h0_32, f_h0_33, f_h0_34, f_h0_35, f_h0_36, f_h0_37, f_h0_38, f_h0_39, f_h0_40, f_h0_41, .ref h5, f_h0_43, .ref hg, f_h0_45, f_h0_46, f_h0_47, f_h0_48, f_h0_49, f_h0_50, f_h0_51, f_h0_52, f_h0_53, f_h0_54, f_h0_55, f_h0_56, f_h0_57, f_h0_58])), (ho, .inl (cs 0, 5650, .inl mRow)), (h5, .inl (cs 0, 6, .inl g5)), (hg, .inl (cs 0, 7, .inl gf))] s.heap.size = A at hD ⊢
  have hA : ∀ q : Nat, s.heap.size ≤ q → A q := fun q h => by rw [← hAe]; exact Or.inr h
  have hS : va_S A s.heap s.heap [] := va_S.rf
  have hl := lv_entry ([.ref h0, .long a, .int b]) (n := 7) (Nat.le_of_ble_eq_true rfl)
  rw [lg_entry_eq]
  generalize (lg_sl ([.ref h0, .long a, .int b]) ++ List.replicate (7 - (lg_sl ([.ref h0, .long a, .int b])).length) Slot.unset).toArray = ls at hl ⊢
  have hl : lv_has ls 7 [(0, .ref h0), (1, .long a), (3, .int b)] := hl
  refine lv_aload_n hx hb dX12_gangs_0 rfl (lv_at hl 0 rfl) ?_
  refine lv_iconst (v := 0) hx hb dX12_gangs_1 (by decide) ?_
  refine va_put (ci := 12) (v := .int 0) (ty := .int) (C := RX12) (T := TX12) (N := 59) hx hb htl inX12 tyX12 tyX12_ok nmX12 hown hK hP hD hS 0 rfl rfl 0 (by decide) (htl _ fl_RX12_156) (fun _ h9 => h9) rfl (by decide +kernel) (by first | rfl | decide) (by first | rfl | decide) (Nat.le_of_ble_eq_true rfl) dX12_gangs_2 (fun H locs hP hD hS => ?_)
  have hP : va_P G vwCl [(h0, .inr (12, [.int 0, f_h0_1, f_h0_2, .ref ho, f_h0_4, f_h0_5, f_h0_6, f_h0_7, f_h0_8, f_h0_9, f_h0_10, f_h0_11, f_h0_12, f_h0_13, f_h0_14, f_h0_15, f_h0_16, f_h0_17, f_h0_18, f_h0_19, f_h0_20, f_h0_21, f_h0_22, f_h0_23, f_h0_24, f_h0_25, f_h0_26, f_h0_27, f_h0_28, f_h0_29, f_h0_30, f_h0_31, f_h0_32, f_h0_33, f_h0_34, f_h0_35, f_h0_36, f_h0_37, f_h0_38, f_h0_39, f_h0_40, f_h0_41, .ref h5, f_h0_43, .ref hg, f_h0_45, f_h0_46, f_h0_47, f_h0_48, f_h0_49, f_h0_50, f_h0_51, f_h0_52, f_h0_53, f_h0_54, f_h0_55, f_h0_56, f_h0_57, f_h0_58])), (ho, .inl (cs 0, 5650, .inl mRow)), (h5, .inl (cs 0, 6, .inl g5)), (hg, .inl (cs 0, 7, .inl gf))] H := hP
  have hD : va_D A [(h0, .inr (12, [.int 0, f_h0_1, f_h0_2, .ref ho, f_h0_4, f_h0_5, f_h0_6, f_h0_7, f_h0_8, f_h0_9, f_h0_10, f_h0_11, f_h0_12, f_h0_13, f_h0_14, f_h0_15, f_h0_16, f_h0_17, f_h0_18, f_h0_19, f_h0_20, f_h0_21, f_h0_22, f_h0_23, f_h0_24, f_h0_25, f_h0_26, f_h0_27, f_h0_28, f_h0_29, f_h0_30, f_h0_31, f_h0_32, f_h0_33, f_h0_34, f_h0_35, f_h0_36, f_h0_37, f_h0_38, f_h0_39, f_h0_40, f_h0_41, .ref h5, f_h0_43, .ref hg, f_h0_45, f_h0_46, f_h0_47, f_h0_48, f_h0_49, f_h0_50, f_h0_51, f_h0_52, f_h0_53, f_h0_54, f_h0_55, f_h0_56, f_h0_57, f_h0_58])), (ho, .inl (cs 0, 5650, .inl mRow)), (h5, .inl (cs 0, 6, .inl g5)), (hg, .inl (cs 0, 7, .inl gf))] := hD
  refine lv_lload_n hx hb dX12_gangs_5 rfl (lv_at hl 1 rfl) ?_
  refine lv_lconst (v := 0) hx hb dX12_gangs_6 (by decide) ?_
  refine lv_ldc2 hx hb hown (htl _ ct_RX12_525) dX12_gangs_7 ?_
  refine vp_callSi (mkSr (rest := []) ⟨hx, hb, hml, hown, htl⟩ hN hK (c_X12_in l G cs a 0 1099511627775) (cS 3 htl lk_RX12_180 mT_X12_in mN_RX12 mC_X12_in ok_X12_in rfl rfl ⟨(Nat.le_of_ble_eq_true rfl), (Nat.le_of_ble_eq_true rfl)⟩) rfl hl.1 rfl (Nat.le_of_ble_eq_true rfl) dX12_gangs_10 ⟨(Nat.le_of_ble_eq_true rfl), (Nat.le_of_ble_eq_true rfl)⟩) (fun r hw => ?_)
  obtain ⟨rfl, hz_1⟩ := hw
  refine lv_if_eq (tgt := 41) hx hb dX12_gangs_13 (by decide) (fun c_13 => ?_) (fun c_13 => ?_)
  · refine lv_iconst (v := (-1)) hx hb dX12_gangs_41 (by decide) ?_
    exact W.iret (v := (-1)) hx hb hr (fun t ht hW => ⟨⟨(-1), (), rfl, (by unfold sp_X12_gangs_n; rw [if_pos c_13]), ⟨fun k q h => by simp at h, va_K.moved hW.alike hK, ⟨fun i j p q h => by simp at h, fun k q h => by simp at h⟩⟩⟩, hS.F ht⟩) hS.2.2 dX12_gangs_42
  · refine lv_lload_n hx hb dX12_gangs_16 rfl (lv_at hl 1 rfl) ?_
    refine vp_callSi (mkSr (rest := []) ⟨hx, hb, hml, hown, htl⟩ hN hK (c_X12_ones l G cs a) (cS 1 htl lk_RX12_527 mT_X12_ones mN_RX12 mC_X12_ones ok_X12_ones rfl rfl ⟨(Nat.le_of_ble_eq_true rfl), (Nat.le_of_ble_eq_true rfl)⟩) rfl hl.1 rfl (Nat.le_of_ble_eq_true rfl) dX12_gangs_17 ⟨(Nat.le_of_ble_eq_true rfl), (Nat.le_of_ble_eq_true rfl)⟩) (fun r hw => ?_)
    subst hw
    refine lv_bipush (v := 6) hx hb dX12_gangs_20 (by decide) ?_
    refine lv_icmp_gt (tgt := 41) hx hb dX12_gangs_22 (by decide) (fun c_22 => ?_) (fun c_22 => ?_)
    · refine lv_iconst (v := (-1)) hx hb dX12_gangs_41 (by decide) ?_
      exact W.iret (v := (-1)) hx hb hr (fun t ht hW => ⟨⟨(-1), (), rfl, (by unfold sp_X12_gangs_n; rw [if_neg c_13, if_pos c_22]), ⟨fun k q h => by simp at h, va_K.moved hW.alike hK, ⟨fun i j p q h => by simp at h, fun k q h => by simp at h⟩⟩⟩, hS.F ht⟩) hS.2.2 dX12_gangs_42
    · refine lv_iload_n hx hb dX12_gangs_25 rfl (lv_at hl 2 rfl) ?_
      refine lv_i2l (v := b.toInt64) hx hb dX12_gangs_26 (by first | rfl | decide) ?_
      refine lv_lconst (v := 0) hx hb dX12_gangs_27 (by decide) ?_
      refine lv_aload_n hx hb dX12_gangs_28 rfl (lv_at hl 0 rfl) ?_
      refine va_get (ci := 12) (v := .ref ho) (C := RX12) (T := TX12) (N := 59) hx hb htl inX12 hown hK hP 0 rfl rfl 3 (by decide) (htl _ fl_RX12_13) (fun _ h9 => h9) rfl dX12_gangs_29 ?_
      refine lv_iconst (v := 0) hx hb dX12_gangs_32 (by decide) ?_
      refine va_iald hx hb hK hP 1 0 rfl rfl (by unfold vp_in; decide) dX12_gangs_33 ?_
      refine lv_topi (fun xv ex => ?_)
      obtain rfl : xv = 0 := ex.trans (by first | exact pk_us | rfl | decide)
      refine lv_i2l (v := 0) hx hb dX12_gangs_34 (by first | rfl | decide) ?_
      refine vp_callSi (mkSr (rest := []) ⟨hx, hb, hml, hown, htl⟩ hN hK (c_X12_in l G cs b.toInt64 0 0) (cS 3 htl lk_RX12_180 mT_X12_in mN_RX12 mC_X12_in ok_X12_in rfl rfl ⟨(Nat.le_of_ble_eq_true rfl), (Nat.le_of_ble_eq_true rfl)⟩) rfl hl.1 rfl (Nat.le_of_ble_eq_true rfl) dX12_gangs_35 ⟨(Nat.le_of_ble_eq_true rfl), (Nat.le_of_ble_eq_true rfl)⟩) (fun r hw => ?_)
      obtain ⟨rfl, hz_2⟩ := hw
      refine lv_if_ne (tgt := 43) hx hb dX12_gangs_38 (by decide) (fun c_38 => ?_) (fun c_38 => ?_)
      · refine lv_iconst (v := 0) hx hb dX12_gangs_43 (by decide) ?_
        refine lv_istore (lv' := [(4, .int 0), (0, .ref h0), (1, .long a), (3, .int b)]) hx hb dX12_gangs_44 hl (by decide) rfl (fun ls hl => ?_)
        refine lv_iconst (v := 0) hx hb dX12_gangs_46 (by decide) ?_
        refine lv_istore (lv' := [(5, .int 0), (4, .int 0), (0, .ref h0), (1, .long a), (3, .int b)]) hx hb dX12_gangs_47 hl (by decide) rfl (fun ls hl => ?_)
        refine lp_mgangs l G cs h0 a b f_h0_0 f_h0_1 f_h0_2 ho f_h0_4 f_h0_5 f_h0_6 f_h0_7 f_h0_8 f_h0_9 f_h0_10 f_h0_11 f_h0_12 f_h0_13 f_h0_14 f_h0_15 f_h0_16 f_h0_17 f_h0_18 f_h0_19 f_h0_20 f_h0_21 f_h0_22 f_h0_23 f_h0_24 f_h0_25 f_h0_26 f_h0_27 f_h0_28 f_h0_29 f_h0_30 f_h0_31 f_h0_32 f_h0_33 f_h0_34 f_h0_35 f_h0_36 f_h0_37 f_h0_38 f_h0_39 f_h0_40 f_h0_41 h5 f_h0_43 hg f_h0_45 f_h0_46 f_h0_47 f_h0_48 f_h0_49 f_h0_50 f_h0_51 f_h0_52 f_h0_53 f_h0_54 f_h0_55 f_h0_56 f_h0_57 f_h0_58 g5 gf hc0 (rng_m c_13) c_22 hx hb hml hown htl hN hK hA (fun g H locs ls hP hD hS hl => ?_) 40 0 rfl (g5) _ _ _ (hP.pick (is := [0, 1, 2, 3]) rfl) (hD.sub [0, 1, 2, 3] rfl rfl) hS (lv_sub hl [2, 3, 4, 1, 0] rfl)
        refine lv_iconst (v := 0) hx hb dX12_gangs_83 (by decide) ?_
        refine lv_istore (lv' := [(5, .int 0), (0, .ref h0), (1, .long a), (3, .int b), (4, .int (onc a 40))]) hx hb dX12_gangs_84 hl (by decide) rfl (fun ls hl => ?_)
        refine lv_iload hx hb dX12_gangs_86 (lv_at hl 0 rfl) ?_
        refine lv_aload_n hx hb dX12_gangs_88 rfl (lv_at hl 1 rfl) ?_
        refine va_get (ci := 12) (v := .ref ho) (C := RX12) (T := TX12) (N := 59) hx hb htl inX12 hown hK hP 0 rfl rfl 3 (by decide) (htl _ fl_RX12_13) (fun _ h9 => h9) rfl dX12_gangs_89 ?_
        refine lv_iconst (v := 0) hx hb dX12_gangs_92 (by decide) ?_
        refine va_iald hx hb hK hP 1 0 rfl rfl (by unfold vp_in; decide) dX12_gangs_93 ?_
        refine lv_topi (fun xv ex => ?_)
        obtain rfl : xv = 0 := ex.trans (by first | exact pk_us | rfl | decide)
        refine lv_icmp_ge (tgt := 145) hx hb dX12_gangs_94 (by decide) (fun _ => ?_) (fun h => absurd (by decide) h)
        refine lv_aload_n hx hb dX12_gangs_145 rfl (lv_at hl 1 rfl) ?_
        refine lv_iload hx hb dX12_gangs_146 (lv_at hl 4 rfl) ?_
        refine mv (wr := [(h5, .inl (cs 0, 6, .inl g))]) (mkV (rest := []) ⟨hx, hb, hml, hown, htl⟩ hN hK hP hD (c_X12_find_n l G cs h0 (onc a 40) (.int 0) f_h0_1 f_h0_2 ho f_h0_4 f_h0_5 f_h0_6 f_h0_7 f_h0_8 f_h0_9 f_h0_10 f_h0_11 f_h0_12 f_h0_13 f_h0_14 f_h0_15 f_h0_16 f_h0_17 f_h0_18 f_h0_19 f_h0_20 f_h0_21 f_h0_22 f_h0_23 f_h0_24 f_h0_25 f_h0_26 f_h0_27 f_h0_28 f_h0_29 f_h0_30 f_h0_31 f_h0_32 f_h0_33 f_h0_34 f_h0_35 f_h0_36 f_h0_37 f_h0_38 f_h0_39 f_h0_40 f_h0_41 (.ref h5) f_h0_43 hg f_h0_45 f_h0_46 f_h0_47 f_h0_48 f_h0_49 f_h0_50 f_h0_51 f_h0_52 f_h0_53 f_h0_54 f_h0_55 f_h0_56 f_h0_57 f_h0_58 (gf) _ (on_n0 (rng_m c_13) hc0)) [0, 1, 3] rfl rfl 0 12 rfl rfl (cV 1 htl lk_RX12_531 mI_X12_findGangs mS_X12_findGangs mN_RX12 mC_X12_findGangs ok_X12_findGangs rfl rfl ⟨(Nat.le_of_ble_eq_true rfl), (Nat.le_of_ble_eq_true rfl)⟩) rfl hl.1 rfl (Nat.le_of_ble_eq_true rfl) dX12_gangs_148 ⟨(Nat.le_of_ble_eq_true rfl), (Nat.le_of_ble_eq_true rfl)⟩) hP hD hS hA [0, 1, 3] [2] rfl rfl rfl (by decide) (fun u_148 H locs hw hP hD hS => ?_)
        have hP : va_P G vwCl [(h5, .inl (cs 0, 6, .inl g)), (h0, .inr (12, [.int 0, f_h0_1, f_h0_2, .ref ho, f_h0_4, f_h0_5, f_h0_6, f_h0_7, f_h0_8, f_h0_9, f_h0_10, f_h0_11, f_h0_12, f_h0_13, f_h0_14, f_h0_15, f_h0_16, f_h0_17, f_h0_18, f_h0_19, f_h0_20, f_h0_21, f_h0_22, f_h0_23, f_h0_24, f_h0_25, f_h0_26, f_h0_27, f_h0_28, f_h0_29, f_h0_30, f_h0_31, f_h0_32, f_h0_33, f_h0_34, f_h0_35, f_h0_36, f_h0_37, f_h0_38, f_h0_39, f_h0_40, f_h0_41, .ref h5, f_h0_43, .ref hg, f_h0_45, .int 100000000, f_h0_47, f_h0_48, f_h0_49, f_h0_50, f_h0_51, f_h0_52, f_h0_53, f_h0_54, f_h0_55, f_h0_56, f_h0_57, f_h0_58]))] H := hP
        have hD : va_D A [(h5, .inl (cs 0, 6, .inl g)), (h0, .inr (12, [.int 0, f_h0_1, f_h0_2, .ref ho, f_h0_4, f_h0_5, f_h0_6, f_h0_7, f_h0_8, f_h0_9, f_h0_10, f_h0_11, f_h0_12, f_h0_13, f_h0_14, f_h0_15, f_h0_16, f_h0_17, f_h0_18, f_h0_19, f_h0_20, f_h0_21, f_h0_22, f_h0_23, f_h0_24, f_h0_25, f_h0_26, f_h0_27, f_h0_28, f_h0_29, f_h0_30, f_h0_31, f_h0_32, f_h0_33, f_h0_34, f_h0_35, f_h0_36, f_h0_37, f_h0_38, f_h0_39, f_h0_40, f_h0_41, .ref h5, f_h0_43, .ref hg, f_h0_45, .int 100000000, f_h0_47, f_h0_48, f_h0_49, f_h0_50, f_h0_51, f_h0_52, f_h0_53, f_h0_54, f_h0_55, f_h0_56, f_h0_57, f_h0_58]))] := hD
        refine lv_aload_n hx hb dX12_gangs_151 rfl (lv_at hl 1 rfl) ?_
        refine va_get (ci := 12) (v := .int 100000000) (C := RX12) (T := TX12) (N := 59) hx hb htl inX12 hown hK hP 1 rfl rfl 46 (by decide) (htl _ fl_RX12_516) (fun _ h9 => h9) rfl dX12_gangs_152 ?_
        refine lv_ldcw hx hb hown (htl _ ct_RX12_505) dX12_gangs_155 ?_
        refine lv_icmp_ne (tgt := 165) hx hb dX12_gangs_158 (by decide) (fun h => absurd (by decide) h) (fun _ => ?_)
        refine lv_iconst (v := (-1)) hx hb dX12_gangs_161 (by decide) ?_
        refine lv_goto (tgt := 184) hx hb dX12_gangs_162 (by decide) ?_
        exact W.iret (v := (-1)) hx hb hr (fun t ht hW => ⟨⟨(-1), (), rfl, (by unfold sp_X12_gangs_n; rw [if_neg c_13, if_neg c_22, if_neg c_38]), ⟨fun k q h => by simp at h, va_K.moved hW.alike hK, ⟨fun i j p q h => by simp at h, fun k q h => by simp at h⟩⟩⟩, hS.F ht⟩) hS.2.2 dX12_gangs_184
      · refine lv_iconst (v := (-1)) hx hb dX12_gangs_41 (by decide) ?_
        exact W.iret (v := (-1)) hx hb hr (fun t ht hW => ⟨⟨(-1), (), rfl, (by unfold sp_X12_gangs_n; rw [if_neg c_13, if_neg c_22, if_pos c_38]), ⟨fun k q h => by simp at h, va_K.moved hW.alike hK, ⟨fun i j p q h => by simp at h, fun k q h => by simp at h⟩⟩⟩, hS.F ht⟩) hS.2.2 dX12_gangs_42
