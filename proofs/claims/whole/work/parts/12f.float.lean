/-! floats: positive ones by their bits, L * 2^23 to K * 2^23; none is a NaN; the bits by halving and doubling -/
def FPos (L K : Nat) (a : UInt32) : Prop := L * 2 ^ 23 ≤ a.toNat ∧ a.toNat < K * 2 ^ 23
theorem FPos.mono {L K L' K' : Nat} {a : UInt32} (h : FPos L K a) (h1 : L' ≤ L) (h2 : K ≤ K') : FPos L' K' a :=
  ⟨Nat.le_trans (Nat.mul_le_mul_right _ h1) h.1, Nat.lt_of_lt_of_le h.2 (Nat.mul_le_mul_right _ h2)⟩
theorem FPos.lt {L K : Nat} {a : UInt32} (h : FPos L K a) (hK : K ≤ 255) : a.toNat < 255 * 2 ^ 23 := Nat.lt_of_lt_of_le h.2 (Nat.mul_le_mul_right _ hK)
theorem vf_of_lt {a : UInt32} (h : a.toNat < 255 * 2 ^ 23) : vf_n32 a := by
  unfold vf_n32
  rw [UInt32.le_iff_toNat_le, UInt32.toNat_and]
  rw [show (0x7fffffff : UInt32).toNat = 2 ^ 31 - 1 by decide, Nat.and_two_pow_sub_one_eq_mod, show (0x7f800000 : UInt32).toNat = 255 * 2 ^ 23 by decide, Nat.mod_eq_of_lt (by omega)]
  omega
theorem vf_of_val {a : UInt32} (h : FP.Core.val32 a ≠ .nan) : vf_n32 a := by
  have := (FP.Core.ne_nan32 a).mp h
  unfold vf_n32
  rw [UInt32.le_iff_toNat_le, UInt32.toNat_and]
  rw [show (0x7fffffff : UInt32).toNat = 2 ^ 31 - 1 by decide, Nat.and_two_pow_sub_one_eq_mod, show (0x7f800000 : UInt32).toNat = 2139095040 by decide]
  exact this
theorem vf_of_val64 {a : UInt64} (h : FP.Core.val64 a ≠ .nan) : vf_n64 a := by
  have := (FP.Core.ne_nan a).mp h
  unfold vf_n64
  rw [UInt64.le_iff_toNat_le, UInt64.toNat_and]
  rw [show (0x7fffffffffffffff : UInt64).toNat = 2 ^ 63 - 1 by decide, Nat.and_two_pow_sub_one_eq_mod, show (0x7ff0000000000000 : UInt64).toNat = 9218868437227405312 by decide]
  exact this
/-- the datum of a positive normal float -/
theorem FPos.val {E T : Nat} {a : UInt32} (ha : a.toNat = E * 2 ^ 23 + T) (hE : 1 ≤ E) (hE2 : E ≤ 254) (hT : T < 2 ^ 23) : FP.Core.val32 a = .fin false (2 ^ 23 + T) ((E : Int) - 150) := by
  have h := FP.Core.decode_assemble FP.Core.b32 false E T (by show E < 2 ^ 8; omega) (by show T < 2 ^ 23; exact hT)
  have e : FP.Core.assemble FP.Core.b32 false E T = a.toNat := by
    unfold FP.Core.assemble
    rw [ha]
    show (0 * _ + E) * 2 ^ 23 + T = _
    omega
  rw [e, if_neg (show ¬ E = FP.Core.b32.exps - 1 by show ¬ E = 2 ^ 8 - 1; omega), if_neg (by omega)] at h
  show FP.Core.decode FP.Core.b32 a.toNat = _
  rw [h]
  have q : FP.Core.b32.qmin + ((E : Int) - 1) = (E : Int) - 150 := by rw [FP.Core.qmin_b32]; omega
  rw [q]
  rfl
theorem FPos.split {L K : Nat} {a : UInt32} (h : FPos L K a) : ∃ E T, a.toNat = E * 2 ^ 23 + T ∧ T < 2 ^ 23 ∧ L ≤ E ∧ E < K := by
  refine ⟨a.toNat / 2 ^ 23, a.toNat % 2 ^ 23, by rw [Nat.mul_comm]; exact (Nat.div_add_mod _ _).symm, Nat.mod_lt _ (by decide), ?_, ?_⟩
  · exact (Nat.le_div_iff_mul_le (by decide)).mpr h.1
  · exact (Nat.div_lt_iff_lt_mul (by decide)).mpr h.2
/-- what the encoding of a positive normal datum is -/
theorem enc_toNat {E T : Nat} (hE : 1 ≤ E) (hE2 : E ≤ 254) (hT : T < 2 ^ 23) : FP.Core.fits FP.Core.b32 (.fin false (2 ^ 23 + T) ((E : Int) - 150)) ∧ FP.Core.encode FP.Core.b32 (.fin false (2 ^ 23 + T) ((E : Int) - 150)) = E * 2 ^ 23 + T := by
  constructor
  · refine ⟨by show _ < 2 ^ 24; omega, by rw [FP.Core.qmin_b32]; omega, by show _ ≤ ((2 ^ 7 - 1 : Nat) : Int) - (24 : Nat) + 1; omega, Or.inr (by show 2 ^ 23 ≤ _; omega)⟩
  · unfold FP.Core.encode
    show (if 2 ^ 23 + T < FP.Core.b32.tails then _ else _) = _
    rw [if_neg (by rw [FP.Core.tails_b32]; omega)]
    unfold FP.Core.assemble
    show (0 * _ + (((E : Int) - 150 - FP.Core.b32.qmin).toNat + 1)) * 2 ^ 23 + (2 ^ 23 + T - 2 ^ 23) = _
    rw [FP.Core.qmin_b32, show ((E : Int) - 150 - -149).toNat + 1 = E by omega]
    omega
theorem fdiv_val (a b : UInt32) : FP.Core.val32 (FP.fdiv a b) = FP.Core.quotient FP.Core.b32 (FP.Core.val32 a) (FP.Core.val32 b) := FP.Core.val32_of32 (FP.Core.quotient_fits FP.Core.good_b32 _ _)
theorem fmul_val (a b : UInt32) : FP.Core.val32 (FP.fmul a b) = FP.Core.round FP.Core.b32 (FP.Core.exactProduct (FP.Core.val32 a) (FP.Core.val32 b)) := FP.Core.val32_of32 (FP.Core.round_fits FP.Core.good_b32 _)
theorem fsub_val (a b : UInt32) : FP.Core.val32 (FP.fsub a b) = FP.Core.round FP.Core.b32 (FP.Core.exactSum (FP.Core.val32 a) (FP.Core.negate (FP.Core.val32 b))) := FP.Core.val32_of32 (FP.Core.round_fits FP.Core.good_b32 _)
/-- a quotient of two positive normal floats, by bits -/
theorem FPos.div {L K L2 K2 : Nat} {a b : UInt32} (ha : FPos L K a) (hb : FPos L2 K2 b) (hL : 1 ≤ L) (hK : K ≤ 255) (hL2 : 1 ≤ L2) (hK2 : K2 ≤ 255) (h1 : K2 + 1 ≤ L + 127) (h2 : K + 128 ≤ 255 + L2) (h3 : L + 127 ≤ 254 + K2) : FPos (L + 127 - K2) (K + 128 - L2) (FP.fdiv a b) := by
  obtain ⟨E, T, e1, e2, e3, e4⟩ := ha.split
  obtain ⟨E2, T2, f1, f2, f3, f4⟩ := hb.split
  have va := FPos.val e1 (by omega) (by omega) e2
  have vb := FPos.val f1 (by omega) (by omega) f2
  have hv := fdiv_val a b
  rw [va, vb] at hv
  have hq : FP.Core.quotient FP.Core.b32 (.fin false (2 ^ 23 + T) ((E : Int) - 150)) (.fin false (2 ^ 23 + T2) ((E2 : Int) - 150)) = FP.Core.roundRatio FP.Core.b32 false (2 ^ 23 + T) (2 ^ 23 + T2) ((E : Int) - 150 - ((E2 : Int) - 150)) := by
    show (if 2 ^ 23 + T2 = 0 then _ else _) = _
    rw [if_neg (by omega)]
    rfl
  rw [hq] at hv
  have hs : ¬ 2 ^ 31 ≤ (FP.fdiv a b).toNat := by
    intro z
    have hn : FP.Core.val32 (FP.fdiv a b) ≠ .nan := by rw [hv]; exact FP.Core.roundRatio_ne_nan _ _ _ _ _
    have := FP.Core.sgn_bits32 hn
    rw [hv, FP.Core.sgn_roundRatio] at this
    have h5 := of_decide_eq_false this.symm
    exact h5 z
  have up := FP.Core.fdiv_mag (a := a) (b := b) (K := K) (L := L2) (by rw [Nat.mod_eq_of_lt (by omega)]; exact ha.2) (by rw [Nat.mod_eq_of_lt (by omega)]; exact hb.1) (by rw [Nat.mod_eq_of_lt (by omega)]; omega) hK hL2
  have lo := FP.Core.mag_ge (f := FP.Core.b32) FP.Core.good_b32 (n := (FP.fdiv a b).toNat) (m := (L + 127 - K2) * FP.Core.b32.tails) (e0 := -1000) hv (by omega) (by rw [FP.Core.qmin_b32]; omega) (by omega) (by rw [FP.Core.infBits_b32, FP.Core.tails_b32]; omega) (by
    rw [FP.Core.unitsOf_start (by omega), FP.Core.qmin_b32, FP.Core.tails_b32]
    unfold FP.Core.inUnits
    rw [show ((-149 : Int) - -1000).toNat = 851 by decide, show ((E : Int) - 150 - ((E2 : Int) - 150) - -1000).toNat = E + 1000 - E2 by omega]
    have h5 : 2 ^ 23 * 2 ^ (L + 127 - K2 - 1) * 2 ^ 851 * (2 ^ 23 + T2) ≤ 2 ^ 23 * 2 ^ (L + 127 - K2 - 1) * 2 ^ 851 * 2 ^ 24 := Nat.mul_le_mul_left _ (by omega)
    have h6 : 2 ^ 23 * 2 ^ (L + 127 - K2 - 1) * 2 ^ 851 * 2 ^ 24 = 2 ^ 23 * 2 ^ (L + 127 - K2 - 1 + 851 + 24) := by
      rw [Nat.mul_assoc, Nat.mul_assoc, ← Nat.pow_add, ← Nat.pow_add]
    have h7 : 2 ^ 23 * 2 ^ (L + 127 - K2 - 1 + 851 + 24) ≤ (2 ^ 23 + T) * 2 ^ (E + 1000 - E2) := Nat.mul_le_mul (by omega) (Nat.pow_le_pow_right (by decide) (by omega))
    exact Nat.le_trans h5 (by rw [h6]; exact h7))
  rw [FP.Core.mag_toNat32, FP.Core.tails_b32, Nat.mod_eq_of_lt (by omega)] at lo
  rw [show FP.Core.fdiv a b = FP.fdiv a b from rfl, Nat.mod_eq_of_lt (by omega)] at up
  exact ⟨lo, by have : K + (149 - 23 - 1) - L2 + 3 = K + 128 - L2 := by omega
                rw [this] at up; exact up⟩
/-- a whole number of 1 to 2^20 -/
theorem FPos.i2f {n : Nat} (h1 : 1 ≤ n) (h2 : n ≤ 2 ^ 20) : FPos 127 148 (FP.i2f (nI n)) := by
  have ht : (FP.i2f (nI n)).toNat = FP.Core.fromInt FP.Core.b32 (nI n).toInt := FP.Core.toNat_i2f _
  rw [nI_toInt (by omega)] at ht
  have up := FP.Core.fromInt_mag32 (K := 147) ht (j := 20) (by show ((n : Int)).natAbs ≤ 2 ^ 20; omega) (by decide) (by decide)
  have lo := FP.Core.fromInt_ge32 ht (by omega)
  have hv : FP.Core.val32 (FP.i2f (nI n)) = FP.Core.roundRatio FP.Core.b32 false n 1 0 := by
    have : FP.Core.val32 (FP.i2f (nI n)) = FP.Core.round FP.Core.b32 (FP.Core.ofInt (nI n).toInt) := FP.Core.val32_of32 (FP.Core.round_fits FP.Core.good_b32 _)
    rw [this, nI_toInt (by omega)]
    show FP.Core.roundRatio FP.Core.b32 (decide ((n : Int) < 0)) (n : Int).natAbs 1 0 = _
    rw [show decide ((n : Int) < 0) = false from decide_eq_false (by omega)]
    rfl
  have hs : ¬ 2 ^ 31 ≤ (FP.i2f (nI n)).toNat := by
    intro z
    have hn : FP.Core.val32 (FP.i2f (nI n)) ≠ .nan := by rw [hv]; exact FP.Core.roundRatio_ne_nan _ _ _ _ _
    have := FP.Core.sgn_bits32 hn
    rw [hv, FP.Core.sgn_roundRatio] at this
    exact of_decide_eq_false this.symm z
  rw [Nat.mod_eq_of_lt (by omega)] at up lo
  exact ⟨by omega, by omega⟩
/-- the float scale of a sheet; the ratio of an edge -/
def fsc (σ : Nat → Nat) (k : Nat) : UInt32 := FP.fdiv (FP.i2f (nI (scn σ k))) 1148846080
def rat (σ : Nat → Nat) (e : Nat) : UInt32 := FP.fdiv (fsc σ (fS σ e)) (fsc σ (sS σ e))
theorem Ok.fs {N : Nat} {σ : Nat → Nat} (h : Ok N σ) {k : Nat} (hk : k < 36) : FPos 117 140 (fsc σ k) := by
  have hs := h.sc hk
  have h1 : FPos 136 137 (1148846080 : UInt32) := by unfold FPos; decide
  exact (FPos.div (FPos.i2f hs.1 (by omega)) h1 (by decide) (by decide) (by decide) (by decide) (by decide) (by decide) (by decide)).mono (by decide) (by decide)
theorem Ok.rt {N : Nat} {σ : Nat → Nat} (h : Ok N σ) {e : Nat} (he : e < nE σ) : FPos 104 151 (rat σ e) := by
  have hf := h.lF he
  have hs := h.lS
  exact (FPos.div (h.fs (show fS σ e < 36 by omega)) (h.fs (show sS σ e < 36 by omega)) (by decide) (by decide) (by decide) (by decide) (by decide) (by decide) (by decide)).mono (by decide) (by decide)
