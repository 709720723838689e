/-! comparing positive floats; halving, doubling, the fraction -/
section ZLF
variable {p : Program} {l : Launch} {e : Env} {R : Room} {s : State} {m : MethodId} {args : Array Value} {below : List Frame} {meth : Method} {c : Code} {H : Heap} {locs : List Loc} {cells slots : Nat} {Q : State → Prop} {pc : Nat} {ls : Array Slot} {rest : List Value} {cc : ByteArray}
theorem lv_ldcfw (hexec : p.tables.exec = Jvm.exec) (hb : c.code = cc) {own : String} {index : Nat} {v : UInt32} (hown : s.vm.findClass own = some m.cls) (hconst : (Jvm.Cond.constantFloat own index v).before args s = true) (hdg : decode cc pc = .ok (.ldc_w index, 3)) (k : W p l e R s m args below meth c H locs cells slots Q (F0 m (pc + 3) ls (.float v :: rest))) : W p l e R s m args below meth c H locs cells slots Q (F0 m pc ls rest) := by
  intro T hT X
  obtain ⟨t, a, b⟩ := k T hT X
  obtain ⟨k', cf, hk, hcf, hcp⟩ := Cond.constantFloat_spec hown hconst
  obtain ⟨k2, hk2, he⟩ := X.warmed.alike.2.2 _ _ hk
  refine ⟨t, ?_, b⟩
  jvm_step X.here [hexec, hb, hdg, ldc_w.wp_float (s := T) (f := F0 m pc ls rest) X.here.top hk2 (by rw [he]; exact hcf) hcp]
  exact a
end ZLF
theorem key_pos {a : UInt32} (h : a.toNat < 255 * 2 ^ 23) : FP.Core.key FP.Core.b32 a.toNat = (a.toNat : Int) := by
  unfold FP.Core.key
  rw [FP.Core.half_b32, decide_eq_false (by omega), FP.Core.mag_toNat32, Nat.mod_eq_of_lt (by omega)]
  rfl
theorem z_fcmp {a b : UInt32} (ha : a.toNat < 255 * 2 ^ 23) (hb : b.toNat < 255 * 2 ^ 23) : FP.fcmp a b = some (compare (a.toNat : Int) (b.toNat : Int)) := by
  have na : FP.Core.decode FP.Core.b32 a.toNat ≠ .nan := (FP.Core.ne_nan32 a).mpr (by rw [Nat.mod_eq_of_lt (by omega)]; omega)
  have nb : FP.Core.decode FP.Core.b32 b.toNat ≠ .nan := (FP.Core.ne_nan32 b).mpr (by rw [Nat.mod_eq_of_lt (by omega)]; omega)
  have := FP.Core.cmp_key FP.Core.good_b32 (FP.Core.lt_full32 a) (FP.Core.lt_full32 b) na nb
  rw [key_pos ha, key_pos hb] at this
  exact this
theorem z_cmp3 (a b : Int) : (a < b ∧ compare a b = .lt) ∨ (a = b ∧ compare a b = .eq) ∨ (b < a ∧ compare a b = .gt) := by
  rcases Int.lt_trichotomy a b with h | h | h
  · exact Or.inl ⟨h, Int.compare_eq_lt.mpr h⟩
  · exact Or.inr (Or.inl ⟨h, Int.compare_eq_eq.mpr h⟩)
  · exact Or.inr (Or.inr ⟨h, Int.compare_eq_gt.mpr h⟩)
theorem z_flt {a b : UInt32} {op : CmpOp} (ha : a.toNat < 255 * 2 ^ 23) (hb : b.toNat < 255 * 2 ^ 23) : Op.cmpValue (FP.fcmp a b) op < 0 ↔ a.toNat < b.toNat := by
  rw [z_fcmp ha hb]
  rcases z_cmp3 (a.toNat : Int) (b.toNat : Int) with ⟨h, e⟩ | ⟨h, e⟩ | ⟨h, e⟩ <;> rw [e]
  · exact ⟨fun _ => by omega, fun _ => (by cases op <;> decide)⟩
  · exact ⟨fun z => absurd z (by cases op <;> decide), fun z => by omega⟩
  · exact ⟨fun z => absurd z (by cases op <;> decide), fun z => by omega⟩
theorem z_fge {a b : UInt32} {op : CmpOp} (ha : a.toNat < 255 * 2 ^ 23) (hb : b.toNat < 255 * 2 ^ 23) : 0 ≤ Op.cmpValue (FP.fcmp a b) op ↔ b.toNat ≤ a.toNat := by
  rw [z_fcmp ha hb]
  rcases z_cmp3 (a.toNat : Int) (b.toNat : Int) with ⟨h, e⟩ | ⟨h, e⟩ | ⟨h, e⟩ <;> rw [e]
  · exact ⟨fun z => absurd z (by cases op <;> decide), fun z => by omega⟩
  · exact ⟨fun _ => by omega, fun _ => (by cases op <;> decide)⟩
  · exact ⟨fun _ => by omega, fun _ => (by cases op <;> decide)⟩
theorem z_fle {a b : UInt32} {op : CmpOp} (ha : a.toNat < 255 * 2 ^ 23) (hb : b.toNat < 255 * 2 ^ 23) : Op.cmpValue (FP.fcmp a b) op ≤ 0 ↔ a.toNat ≤ b.toNat := by
  rw [z_fcmp ha hb]
  rcases z_cmp3 (a.toNat : Int) (b.toNat : Int) with ⟨h, e⟩ | ⟨h, e⟩ | ⟨h, e⟩ <;> rw [e]
  · exact ⟨fun _ => by omega, fun _ => (by cases op <;> decide)⟩
  · exact ⟨fun _ => by omega, fun _ => (by cases op <;> decide)⟩
  · exact ⟨fun z => absurd z (by cases op <;> decide), fun z => by omega⟩
theorem z_two : FP.fconst2.toNat = 128 * 2 ^ 23 := by decide
theorem z_one : FP.fconst1.toNat = 127 * 2 ^ 23 := by decide
theorem z_zero : FP.fconst0.toNat = 0 := by decide
theorem of_enc {E T : Nat} {a : UInt32} (hE : 1 ≤ E) (hE2 : E ≤ 254) (hT : T < 2 ^ 23) (h : FP.Core.val32 a = .fin false (2 ^ 23 + T) ((E : Int) - 150)) : a.toNat = E * 2 ^ 23 + T := by
  have hf := enc_toNat hE hE2 hT
  have h1 : FP.Core.of32 (FP.Core.val32 a) = a := FP.Core.of32_val32 (by rw [h]; exact FP.Core.Datum.noConfusion)
  rw [← h1, h, FP.Core.toNat_of32 hf.1, hf.2]
theorem z_half {E T : Nat} {a : UInt32} (hE : 2 ≤ E) (hE2 : E ≤ 254) (hT : T < 2 ^ 23) (h : a.toNat = E * 2 ^ 23 + T) : (FP.fdiv a FP.fconst2).toNat = (E - 1) * 2 ^ 23 + T := by
  have va := FPos.val h (by omega) hE2 hT
  have v2 := FPos.val (E := 128) (T := 0) (a := FP.fconst2) (by rw [z_two]) (by decide) (by decide) (by decide)
  have hv := fdiv_val a FP.fconst2
  rw [va, v2] at hv
  have hf := (enc_toNat (E := E - 1) (T := T) (by omega) (by omega) hT).1
  have hr : FP.Core.quotient FP.Core.b32 (.fin false (2 ^ 23 + T) ((E : Int) - 150)) (.fin false (2 ^ 23 + 0) (((128 : Nat) : Int) - 150)) = .fin false (2 ^ 23 + T) (((E - 1 : Nat) : Int) - 150) := by
    show FP.Core.roundRatio FP.Core.b32 false (2 ^ 23 + T) (2 ^ 23 + 0) ((E : Int) - 150 - (((128 : Nat) : Int) - 150)) = _
    refine FP.Core.roundRatio_exact FP.Core.good_b32 (by decide) hf ?_
    rw [show ((E : Int) - 150 - (((128 : Nat) : Int) - 150) - (((E - 1 : Nat) : Int) - 150)).toNat = 23 by omega, show ((((E - 1 : Nat) : Int) - 150) - ((E : Int) - 150 - (((128 : Nat) : Int) - 150))).toNat = 0 by omega]
    omega
  rw [hr] at hv
  exact of_enc (by omega) (by omega) hT hv
theorem z_dbl {E T : Nat} {a : UInt32} (hE : 1 ≤ E) (hE2 : E ≤ 253) (hT : T < 2 ^ 23) (h : a.toNat = E * 2 ^ 23 + T) : (FP.fmul a FP.fconst2).toNat = (E + 1) * 2 ^ 23 + T := by
  have va := FPos.val h (by omega) (by omega) hT
  have v2 := FPos.val (E := 128) (T := 0) (a := FP.fconst2) (by rw [z_two]) (by decide) (by decide) (by decide)
  have hv := fmul_val a FP.fconst2
  rw [va, v2] at hv
  have hf := (enc_toNat (E := E + 1) (T := T) (by omega) (by omega) hT).1
  have hr : FP.Core.round FP.Core.b32 (FP.Core.exactProduct (.fin false (2 ^ 23 + T) ((E : Int) - 150)) (.fin false (2 ^ 23 + 0) (((128 : Nat) : Int) - 150))) = .fin false (2 ^ 23 + T) (((E + 1 : Nat) : Int) - 150) := by
    refine FP.Core.roundRatio_exact FP.Core.good_b32 (by decide) hf ?_
    rw [show ((E : Int) - 150 + (((128 : Nat) : Int) - 150) - (((E + 1 : Nat) : Int) - 150)).toNat = 0 by omega, show ((((E + 1 : Nat) : Int) - 150) - ((E : Int) - 150 + (((128 : Nat) : Int) - 150))).toNat = 23 by omega]
    omega
  rw [hr] at hv
  exact of_enc (by omega) (by omega) hT hv
/-- a round of a finite datum with few digits keeps its value -/
theorem z_keep {c : Nat} {q : Int} (hc : c < 2 ^ 24) (h1 : -149 ≤ q) (h2 : q ≤ 104) : ∃ c' q', FP.Core.round FP.Core.b32 (.fin false c q) = .fin false c' q' ∧ -149 ≤ q' ∧ c' < 2 ^ 24 ∧ q' ≤ 104 ∧ c' * 2 ^ (q' + 149).toNat = c * 2 ^ (q + 149).toNat := by
  obtain ⟨c', q', e1, e2⟩ := FP.Core.round_exact FP.Core.good_b32 false (c := c) (q := q) hc (by rw [FP.Core.qmin_b32]; exact h1) (by show q ≤ ((2 ^ 7 - 1 : Nat) : Int) - (24 : Nat) + 1; omega)
  have hf := FP.Core.round_fits FP.Core.good_b32 (.fin false c q)
  rw [e1] at hf
  obtain ⟨f1, f2, f3, -⟩ := hf
  rw [FP.Core.qmin_b32] at f2
  have f3' : q' ≤ 104 := by
    have : q' ≤ ((2 ^ 7 - 1 : Nat) : Int) - (24 : Nat) + 1 := f3
    omega
  refine ⟨c', q', e1, f2, f1, f3', ?_⟩
  unfold FP.Core.inUnits at e2
  rw [FP.Core.qmin_b32, show q' - -149 = q' + 149 by omega, show q - -149 = q + 149 by omega] at e2
  exact e2
theorem z_frac {T : Nat} {a : UInt32} (hT : T < 2 ^ 23) (h : a.toNat = 127 * 2 ^ 23 + T) : vf_n32 (FP.fsub a FP.fconst1) ∧ vf_n32 (FP.fmul (FP.fsub a FP.fconst1) 1258291200) ∧ FP.f2i (FP.fmul (FP.fsub a FP.fconst1) 1258291200) = nI T := by
  have va := FPos.val h (by omega) (by omega) hT
  have v1 := FPos.val (E := 127) (T := 0) (a := FP.fconst1) (by rw [z_one]) (by decide) (by decide) (by decide)
  have v8 := FPos.val (E := 150) (T := 0) (a := (1258291200 : UInt32)) (by decide) (by decide) (by decide) (by decide)
  have hv := fsub_val a FP.fconst1
  rw [va, v1] at hv
  have hs : FP.Core.exactSum (.fin false (2 ^ 23 + T) (((127 : Nat) : Int) - 150)) (FP.Core.negate (.fin false (2 ^ 23 + 0) (((127 : Nat) : Int) - 150))) = .fin false T (-23) := by
    show FP.Core.Datum.fin (FP.Core.sumSign false true (FP.Core.sumUnits false (2 ^ 23 + T) (((127 : Nat) : Int) - 150) true (2 ^ 23 + 0) (((127 : Nat) : Int) - 150) (min (((127 : Nat) : Int) - 150) (((127 : Nat) : Int) - 150)))) (FP.Core.sumUnits false (2 ^ 23 + T) (((127 : Nat) : Int) - 150) true (2 ^ 23 + 0) (((127 : Nat) : Int) - 150) (min (((127 : Nat) : Int) - 150) (((127 : Nat) : Int) - 150))).natAbs (min (((127 : Nat) : Int) - 150) (((127 : Nat) : Int) - 150)) = _
    have hu : FP.Core.sumUnits false (2 ^ 23 + T) (((127 : Nat) : Int) - 150) true (2 ^ 23 + 0) (((127 : Nat) : Int) - 150) (min (((127 : Nat) : Int) - 150) (((127 : Nat) : Int) - 150)) = (T : Int) := by
      unfold FP.Core.sumUnits FP.Core.signed FP.Core.inUnits
      rw [show (((127 : Nat) : Int) - 150 - min (((127 : Nat) : Int) - 150) (((127 : Nat) : Int) - 150)).toNat = 0 by decide]
      simp only [Bool.false_eq_true, if_false, if_true, Nat.pow_zero, Nat.mul_one]
      omega
    rw [hu]
    have hsg : FP.Core.sumSign false true (T : Int) = false := by
      unfold FP.Core.sumSign
      by_cases z : (T : Int) = 0
      · rw [if_pos z]; rfl
      · rw [if_neg z]; exact decide_eq_false (by omega)
    rw [hsg, show min (((127 : Nat) : Int) - 150) (((127 : Nat) : Int) - 150) = -23 by decide]
    rfl
  rw [hs] at hv
  obtain ⟨c1, q1, e1, a1, a2, a3, a4⟩ := z_keep (c := T) (q := -23) (by omega) (by decide) (by decide)
  rw [e1] at hv
  have hm := fmul_val (FP.fsub a FP.fconst1) 1258291200
  rw [hv, v8] at hm
  have hq : q1 ≤ 104 - 0 := by omega
  have hp : FP.Core.exactProduct (.fin false c1 q1) (.fin false (2 ^ 23 + 0) (((150 : Nat) : Int) - 150)) = .fin false (c1 * 2 ^ 23) q1 := by
    show FP.Core.Datum.fin (false != false) (c1 * (2 ^ 23 + 0)) (q1 + (((150 : Nat) : Int) - 150)) = _
    rw [show q1 + (((150 : Nat) : Int) - 150) = q1 by omega]
    rfl
  rw [hp] at hm
  refine ⟨vf_of_val (by rw [hv]; exact FP.Core.Datum.noConfusion), ?_, ?_⟩
  · refine vf_of_val (by rw [hm]; exact FP.Core.roundRatio_ne_nan _ _ _ _ _)
  · by_cases hz : T = 0
    · subst hz
      have hc0 : c1 = 0 := by
        rw [Nat.zero_mul] at a4
        rcases Nat.mul_eq_zero.mp a4 with z | z
        · exact z
        · exact absurd z (Nat.pos_iff_ne_zero.mp (Nat.two_pow_pos _))
      subst hc0
      have : FP.Core.round FP.Core.b32 (.fin false (0 * 2 ^ 23) q1) = .fin false 0 FP.Core.b32.qmin := by
        rw [Nat.zero_mul]
        rfl
      rw [this] at hm
      show FP.Core.toI (FP.Core.val32 _) = _
      rw [hm]
      decide
    · have hfit : FP.Core.fits FP.Core.b32 (.fin false c1 (q1 + 23)) := by
        have hf := FP.Core.round_fits FP.Core.good_b32 (.fin false T (-23))
        rw [e1] at hf
        obtain ⟨f1, f2, f3, f4⟩ := hf
        have hq1 : q1 + 149 ≤ 126 := by
          refine Int.not_lt.mp fun z => ?_
          rw [show ((-23 : Int) + 149).toNat = 126 by decide, show (q1 + 149).toNat = 127 + ((q1 + 149).toNat - 127) by omega, Nat.pow_add] at a4
          have hc1 : 0 < c1 := by
            rcases Nat.eq_zero_or_pos c1 with w | w
            · subst w; rw [Nat.zero_mul] at a4; exact absurd a4.symm (Nat.pos_iff_ne_zero.mp (Nat.mul_pos (by omega) (by decide)))
            · exact w
          have g1 : c1 * (2 ^ 127 * 2 ^ ((q1 + 149).toNat - 127)) ≥ 2 ^ 127 := by
            have := Nat.mul_pos hc1 (Nat.two_pow_pos ((q1 + 149).toNat - 127))
            calc 2 ^ 127 = 2 ^ 127 * 1 := rfl
              _ ≤ 2 ^ 127 * (c1 * 2 ^ ((q1 + 149).toNat - 127)) := Nat.mul_le_mul_left _ this
              _ = c1 * (2 ^ 127 * 2 ^ ((q1 + 149).toNat - 127)) := Nat.mul_left_comm _ _ _
          rcases f4 with w | w
          · rw [FP.Core.qmin_b32] at w; omega
          · have w' : 2 ^ 23 ≤ c1 := w
            have g2 : c1 * (2 ^ 127 * 2 ^ ((q1 + 149).toNat - 127)) ≥ 2 ^ 23 * 2 ^ 127 := Nat.mul_le_mul w' (Nat.le_mul_of_pos_right _ (Nat.two_pow_pos _))
            have g3 : T * 2 ^ 126 < 2 ^ 23 * 2 ^ 126 := Nat.mul_lt_mul_of_pos_right hT (by decide)
            omega
        have hqn : q1 ≠ FP.Core.b32.qmin := by
          rw [FP.Core.qmin_b32]
          intro w
          subst w
          rw [show ((-149 : Int) + 149).toNat = 0 by decide, show ((-23 : Int) + 149).toNat = 126 by decide, Nat.pow_zero, Nat.mul_one] at a4
          have : 1 * 2 ^ 126 ≤ T * 2 ^ 126 := Nat.mul_le_mul_right _ (by omega)
          omega
        exact ⟨f1, by rw [FP.Core.qmin_b32] at f2 ⊢; omega, by show _ ≤ ((2 ^ 7 - 1 : Nat) : Int) - (24 : Nat) + 1; omega, Or.inr (f4.resolve_left hqn)⟩
      have hr : FP.Core.round FP.Core.b32 (.fin false (c1 * 2 ^ 23) q1) = .fin false c1 (q1 + 23) := by
        refine FP.Core.roundRatio_exact FP.Core.good_b32 (by decide) hfit ?_
        rw [show (q1 - (q1 + 23)).toNat = 0 by omega, show (q1 + 23 - q1).toNat = 23 by omega]
        omega
      rw [hr] at hm
      show FP.Core.toI (FP.Core.val32 _) = _
      rw [hm]
      have hfq := hfit.2.2.1
      have hq1 : q1 + 23 ≤ 0 := by
        refine Int.not_lt.mp fun z => ?_
        have f4 := hfit.2.2.2
        rw [show ((-23 : Int) + 149).toNat = 126 by decide, show (q1 + 149).toNat = 127 + ((q1 + 149).toNat - 127) by omega, Nat.pow_add] at a4
        rcases f4 with w | w
        · rw [FP.Core.qmin_b32] at w; omega
        · have w' : 2 ^ 23 ≤ c1 := w
          have g2 : c1 * (2 ^ 127 * 2 ^ ((q1 + 149).toNat - 127)) ≥ 2 ^ 23 * 2 ^ 127 := Nat.mul_le_mul w' (Nat.le_mul_of_pos_right _ (Nat.two_pow_pos _))
          have g3 : T * 2 ^ 126 < 2 ^ 23 * 2 ^ 126 := Nat.mul_lt_mul_of_pos_right hT (by decide)
          omega
      have ht : FP.Core.truncate false c1 (q1 + 23) = (T : Int) := by
        unfold FP.Core.truncate FP.Core.signed
        rw [show (q1 + 23).toNat = 0 by omega, Nat.pow_zero, Nat.mul_one]
        have hcT : c1 = T * 2 ^ (-(q1 + 23)).toNat := by
          have e : (-23 + 149 : Int).toNat = (q1 + 149).toNat + (-(q1 + 23)).toNat := by omega
          rw [e, Nat.pow_add, ← Nat.mul_assoc] at a4
          have a5 : c1 * 2 ^ (q1 + 149).toNat = (T * 2 ^ (-(q1 + 23)).toNat) * 2 ^ (q1 + 149).toNat := by rw [a4]; ac_rfl
          exact Nat.eq_of_mul_eq_mul_right (Nat.two_pow_pos _) a5
        have hd : c1 / 2 ^ (-(q1 + 23)).toNat = T := by rw [hcT, Nat.mul_div_cancel _ (Nat.two_pow_pos _)]
        rw [hd]
        rfl
      show Int32.ofInt (max (-2 ^ 31) (min (2 ^ 31 - 1) (FP.Core.truncate false c1 (q1 + 23)))) = nI T
      rw [ht, show max (-2 ^ 31 : Int) (min (2 ^ 31 - 1) (T : Int)) = (T : Int) by omega]
      rfl
theorem vf_lt_val {a : UInt32} (h : a.toNat < 255 * 2 ^ 23) : FP.Core.val32 a ≠ .nan := (FP.Core.ne_nan32 a).mpr (by rw [Nat.mod_eq_of_lt (by omega)]; omega)
theorem round_nn {f : FP.Core.Fmt} {d : FP.Core.Datum} (h : d ≠ .nan) : FP.Core.round f d ≠ .nan := by
  cases d with
  | nan => exact absurd rfl h
  | inf s => exact FP.Core.Datum.noConfusion
  | fin s c q => exact FP.Core.roundRatio_ne_nan _ _ _ _ _
theorem f2d_val {a : UInt32} (h : FP.Core.val32 a ≠ .nan) : FP.Core.val64 (FP.f2d a) ≠ .nan := by
  have hn : FP.Core.fIsNaN a = false := (FP.Core.notNaN_iff32 a).mpr h
  unfold FP.f2d
  rw [hn, if_neg (by decide)]
  have : FP.Core.val64 (FP.Core.f2d a) = FP.Core.round FP.Core.b64 (FP.Core.val32 a) := FP.Core.val64_of64 (FP.Core.round_fits FP.Core.good_b64 _)
  rw [this]
  exact round_nn h
theorem f2d_ok {a : UInt32} (h : FP.Core.val32 a ≠ .nan) : vf_n64 (FP.f2d a) := vf_of_val64 (f2d_val h)
theorem dsub_ok {a : UInt64} (h : FP.Core.val64 a ≠ .nan) : vf_n64 (FP.dsub a FP.dconst1) := by
  refine vf_of_val64 ?_
  have e : FP.Core.val64 (FP.dsub a FP.dconst1) = FP.Core.round FP.Core.b64 (FP.Core.exactSum (FP.Core.val64 a) (FP.Core.negate (FP.Core.val64 FP.dconst1))) := FP.Core.val64_of64 (FP.Core.round_fits FP.Core.good_b64 _)
  have e1 : FP.Core.val64 FP.dconst1 = .fin false (2 ^ 52) (-52) := by decide +kernel
  rw [e, e1]
  refine round_nn ?_
  cases hd : FP.Core.val64 a with
  | nan => exact absurd hd h
  | inf s => exact FP.Core.Datum.noConfusion
  | fin s c q => exact FP.Core.Datum.noConfusion
theorem tol_ok (t : Int32) : vf_n64 (FP.ddiv (FP.i2d t) 4652007308841189376) := by
  refine vf_of_val64 ?_
  have e : FP.Core.val64 (FP.ddiv (FP.i2d t) 4652007308841189376) = FP.Core.quotient FP.Core.b64 (FP.Core.val64 (FP.i2d t)) (FP.Core.val64 4652007308841189376) := FP.Core.val64_of64 (FP.Core.quotient_fits FP.Core.good_b64 _ _)
  have e1 : FP.Core.val64 (4652007308841189376 : UInt64) = .fin false (2 ^ 46 * 125) (-43) ∨ ∃ c q, FP.Core.val64 (4652007308841189376 : UInt64) = .fin false c q ∧ c ≠ 0 := Or.inr ⟨_, _, rfl, by decide +kernel⟩
  have e2 : ∃ c q, FP.Core.val64 (4652007308841189376 : UInt64) = .fin false c q ∧ c ≠ 0 := ⟨_, _, rfl, by decide +kernel⟩
  obtain ⟨c, q, h1, h2⟩ := e2
  have ei : FP.Core.val64 (FP.i2d t) = FP.Core.round FP.Core.b64 (FP.Core.ofInt t.toInt) := FP.Core.val64_of64 (FP.Core.round_fits FP.Core.good_b64 _)
  have ni : FP.Core.val64 (FP.i2d t) ≠ .nan := by rw [ei]; exact round_nn FP.Core.Datum.noConfusion
  rw [e, h1]
  cases hd : FP.Core.val64 (FP.i2d t) with
  | nan => exact absurd hd ni
  | inf s => exact FP.Core.Datum.noConfusion
  | fin s c2 q2 =>
    show (if c = 0 then _ else _) ≠ _
    rw [if_neg h2]
    exact FP.Core.roundRatio_ne_nan _ _ _ _ _
/-- an edge's ratio fits -/
def off (σ : Nat → Nat) (e : Nat) : UInt64 := FP.dsub (FP.f2d (rat σ e)) FP.dconst1
def szd (o : UInt64) : UInt64 := if Op.cmpValue (FP.dcmp o FP.dconst0) .g < 0 then FP.dneg o else o
abbrev fitP (σ : Nat → Nat) (e : Nat) : Prop := Op.cmpValue (FP.dcmp (szd (off σ e)) (FP.ddiv (FP.i2d (nI (σ 3))) 4652007308841189376)) .g ≤ 0
def fitA (σ : Nat → Nat) : Nat := sm (fun e => if fitP σ e then 1 else 0) (nE σ)
theorem zdec2 {a j : Nat} (h : j + 1 ≤ a) : nI (a - j) + Int32.ofInt (-1) = nI (a - (j + 1)) := by
  rw [zdec (show 1 ≤ a - j by omega)]
  congr 1
