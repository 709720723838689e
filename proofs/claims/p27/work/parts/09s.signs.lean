set_option maxHeartbeats 4000000 in
set_option maxRecDepth 100000 in
theorem kX0_signsShownOn (l : Launch) (G : zG) (a : Nat → Nat) (σ : Nat → Nat) {N : Nat} (k : Nat) (hO : Ok N σ) (hk : k < 36) : Met l yX0_signsShownOn wsX0_signsShownOn (zRm 2 45) (zPc G [.ref (a 0), .int (nI k)] (va_P G.1 vwCl (wA G a σ))) (zS (.int (nI (sgs σ k)))) 0 0 (fun _ => False) := by
  refine zmkI (cc := cX0_signsShownOn) (maxL := 5) (by decide) rfl (Nat.le_of_ble_eq_true rfl) ?_
  intro pr en st mi ar bl me cd ls Q hx hb hml hown hts hG hP hl hret
  have hown : st.vm.findClass RX0 = some mi.cls := hown
  have hl : lv_has ls 5 [(0, .ref (a 0)), (1, .int (nI k))] := hl
  have hP : va_P G.1 vwCl (wA G a σ) st.heap := hP
  have hc := hO.c
  have hs := hO.lS
  have hr := hO.lR
  have hne := hO.lE
  refine lv_iconst (v := nI 0) hx hb dX0_signsShownOn_0 (by decide) ?_
  refine lv_istore_n (lv' := [(2, .int (nI 0)), (0, .ref (a 0)), (1, .int (nI k))]) hx hb dX0_signsShownOn_1 rfl hl (by decide) rfl (fun ls hl => ?_)
  refine lv_iconst (v := nI 0) hx hb dX0_signsShownOn_2 (by decide) ?_
  refine lv_istore_n (lv' := [(3, .int (nI 0)), (2, .int (nI 0)), (0, .ref (a 0)), (1, .int (nI k))]) hx hb dX0_signsShownOn_3 rfl hl (by decide) rfl (fun ls hl => ?_)
  have loop4 : ∀ (n : Nat) (d : Nat) (x : Nat) (hxx : x = sm (fun j => if σ (64 + 53 * k + j) = 10 then 0 else 1) (10 * d)) (hd4 : d ≤ 4) (hm : 4 < d + n) (ls : Array Slot) (hl : lv_has ls 5 [(0, .ref (a 0)), (1, .int (nI k)), (2, .int (nI x)), (3, .int (nI d))]), W pr l en (zRm 2 45) st mi ar bl me cd st.heap [] 0 0 Q (F0 mi 4 ls []) := by
    intro n
    induction n with
    | zero => intro d x hxx hd4 hm ls hl; exfalso; omega
    | succ n ih4 =>
      intro d x hxx hd4 hm ls hl
      refine lv_iload_n hx hb dX0_signsShownOn_4 rfl (lv_at hl 3 rfl) ?_
      refine lv_iconst (v := nI 4) hx hb dX0_signsShownOn_5 (by decide) ?_
      refine lv_icmp_ge (tgt := 47) hx hb dX0_signsShownOn_6 (by decide) (fun h6 => ?_) (fun h6 => ?_)
      · skip
        have h6 : 4 ≤ d := (nI_leI (by omega) (by omega)).mp h6
        refine lv_iload_n hx hb dX0_signsShownOn_47 rfl (lv_at hl 2 rfl) ?_
        exact hret _ _ _ dX0_signsShownOn_48 (congrArg nI (by obtain rfl : d = 4 := (by omega); exact hxx))
      · skip
        have h6 : ¬ (4 ≤ d) := fun q => h6 ((nI_leI (by omega) (by omega)).mpr q)
        refine lv_iconst (v := nI 0) hx hb dX0_signsShownOn_9 (by decide) ?_
        refine lv_istore (lv' := [(4, .int (nI 0)), (0, .ref (a 0)), (1, .int (nI k)), (2, .int (nI x)), (3, .int (nI d))]) hx hb dX0_signsShownOn_10 hl (by decide) rfl (fun ls hl => ?_)
        have loop12 : ∀ (n : Nat) (p : Nat) (y : Nat) (hyy : y = sm (fun j => if σ (64 + 53 * k + j) = 10 then 0 else 1) (10 * d + p)) (hp10 : p ≤ 10) (hm2 : 10 < p + n) (ls : Array Slot) (hl : lv_has ls 5 [(0, .ref (a 0)), (1, .int (nI k)), (2, .int (nI y)), (3, .int (nI d)), (4, .int (nI p))]), W pr l en (zRm 2 45) st mi ar bl me cd st.heap [] 0 0 Q (F0 mi 12 ls []) := by
          intro n
          induction n with
          | zero => intro p y hyy hp10 hm2 ls hl; exfalso; omega
          | succ n ih12 =>
            intro p y hyy hp10 hm2 ls hl
            refine lv_iload hx hb dX0_signsShownOn_12 (lv_at hl 4 rfl) ?_
            refine lv_bipush (v := nI 10) hx hb dX0_signsShownOn_14 (by decide) ?_
            refine lv_icmp_ge (tgt := 41) hx hb dX0_signsShownOn_16 (by decide) (fun h16 => ?_) (fun h16 => ?_)
            · skip
              have h16 : 10 ≤ p := (nI_leI (by omega) (by omega)).mp h16
              refine lv_iinc (v := nI (d + 1)) (lv' := [(3, .int (nI (d + 1))), (0, .ref (a 0)), (1, .int (nI k)), (2, .int (nI y)), (4, .int (nI p))]) hx hb dX0_signsShownOn_41 hl (k := 3) rfl (zinc1 _) (by decide) rfl (fun ls hl => ?_)
              refine lv_goto (tgt := 4) hx hb dX0_signsShownOn_44 (by decide) ?_
              exact ih4 (d + 1) y (by rw [show 10 * (d + 1) = 10 * d + p by omega]; exact hyy) (by omega) (by omega) _ (lv_sub hl [1, 2, 3, 0] rfl)
            · skip
              have h16 : ¬ (10 ≤ p) := fun q => h16 ((nI_leI (by omega) (by omega)).mpr q)
              refine lv_aload_n hx hb dX0_signsShownOn_19 rfl (lv_at hl 0 rfl) ?_
              refine lv_iload_n hx hb dX0_signsShownOn_20 rfl (lv_at hl 1 rfl) ?_
              refine lv_iload_n hx hb dX0_signsShownOn_21 rfl (lv_at hl 3 rfl) ?_
              refine lv_iload hx hb dX0_signsShownOn_22 (lv_at hl 4 rfl) ?_
              refine zrdV (As := [.int (nI k), .int (nI d), .int (nI p)]) ⟨hx, hb, hml, hown, hts⟩ (kX0_signAt l G a σ k d p (by omega) (by omega) (by omega)) (cwV 3 hts gX0_signsShownOn_X0_signAt rfl rfl rfl (by decide +kernel) ⟨Nat.le_of_ble_eq_true rfl, Nat.le_of_ble_eq_true rfl⟩) hG (va_recv (q0 := 0) (ci := 0) hG.1 hP rfl rfl) (hP) rfl rfl hl.1 dX0_signsShownOn_24 (Nat.le_of_ble_eq_true rfl) ⟨Nat.le_of_ble_eq_true rfl, Nat.le_of_ble_eq_true rfl⟩ ?_
              have hsg := hO.sg hk (show d < 4 by omega) (show p < 10 by omega)
              refine lv_bipush (v := nI 10) hx hb dX0_signsShownOn_27 (by decide) ?_
              refine lv_icmp_eq (tgt := 35) hx hb dX0_signsShownOn_29 (by decide) (fun h29 => ?_) (fun h29 => ?_)
              · skip
                have h29 : (sgn σ k d p) = 10 := (nI_eq (by omega) (by omega)).mp h29
                refine lv_iinc (v := nI (p + 1)) (lv' := [(4, .int (nI (p + 1))), (0, .ref (a 0)), (1, .int (nI k)), (2, .int (nI y)), (3, .int (nI d))]) hx hb dX0_signsShownOn_35 hl (k := 4) rfl (zinc1 _) (by decide) rfl (fun ls hl => ?_)
                refine lv_goto (tgt := 12) hx hb dX0_signsShownOn_38 (by decide) ?_
                exact ih12 (p + 1) y (by rw [show 10 * d + (p + 1) = 10 * d + p + 1 by omega, sm, ← hyy]; unfold sgn at h29; simp [h29]) (by omega) (by omega) _ (lv_sub hl [1, 2, 3, 4, 0] rfl)
              · skip
                have h29 : ¬ ((sgn σ k d p) = 10) := fun q => h29 ((nI_eq (by omega) (by omega)).mpr q)
                refine lv_iinc (v := nI (y + 1)) (lv' := [(2, .int (nI (y + 1))), (0, .ref (a 0)), (1, .int (nI k)), (3, .int (nI d)), (4, .int (nI p))]) hx hb dX0_signsShownOn_32 hl (k := 2) rfl (zinc1 _) (by decide) rfl (fun ls hl => ?_)
                refine lv_iinc (v := nI (p + 1)) (lv' := [(4, .int (nI (p + 1))), (2, .int (nI (y + 1))), (0, .ref (a 0)), (1, .int (nI k)), (3, .int (nI d))]) hx hb dX0_signsShownOn_35 hl (k := 4) rfl (zinc1 _) (by decide) rfl (fun ls hl => ?_)
                refine lv_goto (tgt := 12) hx hb dX0_signsShownOn_38 (by decide) ?_
                exact ih12 (p + 1) (y + 1) (by rw [show 10 * d + (p + 1) = 10 * d + p + 1 by omega, sm, ← hyy]; unfold sgn at h29; simp [h29]) (by omega) (by omega) _ (lv_sub hl [2, 3, 1, 4, 0] rfl)
        exact loop12 11 0 x (hxx) (by omega) (by omega) _ (lv_sub hl [1, 2, 3, 4, 0] rfl)
  exact loop4 5 0 0 (rfl) (by omega) (by omega) _ (lv_sub hl [2, 3, 1, 0] rfl)
