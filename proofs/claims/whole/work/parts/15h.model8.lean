set_option maxHeartbeats 4000000 in
set_option maxRecDepth 100000 in
theorem kX5_read_inv (l : Launch) (G : zG) (m : Nat → Nat) (σ : Nat → Nat) (V : Nat → Nat → Nat) (ζ : Nat → Nat) (ns : Nat) (x : Nat → Nat) (len : Nat) (B : Nat → Int32) {N : Nat} (x1 : Int32) (hO : Ok N σ) (hns : ns ≤ 4) (hv : ¬ (0 ≤ x1 ∧ x1 < nI (nS σ))) (hd : va_D (fun _ => True) (wM G m σ V ζ ns x len B)) : Met l yX5_read wsX5_read (zRm 8 183) (zPc G [.ref (m 0), .int x1] (va_P G.1 vwCl (wM G m σ V ζ ns x len B))) (zQ (zA (wM G m σ V ζ ns x len B)) (some (.int ((-1)))) (va_P G.1 vwCl (wM G m σ V ζ ns x len B))) 0 0 (zA (wM G m σ V ζ ns x len B)) := by
  refine zmkWi (w := (wM G m σ V ζ ns x len B)) hd (cc := cX5_read) (maxL := 6) (by decide) rfl (Nat.le_of_ble_eq_true rfl) ?_
  intro pr en st mi ar bl me cd ls Q hx hb hml hown hts hG hP hl hD hS hret
  have hown : st.vm.findClass RX5 = some mi.cls := hown
  have hl : lv_has ls 6 [(0, .ref (m 0)), (1, .int x1)] := hl
  have hP : va_P G.1 vwCl (wM G m σ V ζ ns x len B) st.heap := hP
  have hD : va_D (zA (wM G m σ V ζ ns x len B)) (wM G m σ V ζ ns x len B) := hD
  have hc := hO.c
  have hs := hO.lS
  have hr := hO.lR
  have hne := hO.lE
  refine lv_aload_n hx hb dX5_read_0 rfl (lv_at hl 0 rfl) ?_
  refine lv_iload_n hx hb dX5_read_1 rfl (lv_at hl 1 rfl) ?_
  refine zrdV (As := [.int x1]) ⟨hx, hb, hml, hown, hts⟩ (kX5_isSheet l G m σ V ζ ns x len B x1) (cwV 1 hts gX5_read_X5_isSheet rfl rfl rfl (by decide +kernel) ⟨Nat.le_of_ble_eq_true rfl, Nat.le_of_ble_eq_true rfl⟩) hG (va_recv (q0 := 0) (ci := 5) hG.1 hP rfl rfl) (hP) rfl rfl hl.1 dX5_read_2 (Nat.le_of_ble_eq_true rfl) ⟨Nat.le_of_ble_eq_true rfl, Nat.le_of_ble_eq_true rfl⟩ ?_
  refine lv_if_ne (tgt := 10) hx hb dX5_read_5 (by decide) (fun h5 => ?_) (fun h5 => ?_)
  · skip
    have h5 : ¬ (¬ (0 ≤ x1 ∧ x1 < nI (nS σ))) := fun q => h5 ((z_b0).mpr q)
    have h5 : 0 ≤ x1 ∧ x1 < nI (nS σ) := Decidable.of_not_not h5
    exact absurd h5 hv
  · skip
    have h5 : ¬ (0 ≤ x1 ∧ x1 < nI (nS σ)) := (z_b0).mp h5
    refine lv_iconst (v := (-1)) hx hb dX5_read_8 (by decide) ?_
    exact hret _ _ _ _ _ dX5_read_9 hS (hP) (rfl)
set_option maxHeartbeats 4000000 in
set_option maxRecDepth 100000 in
theorem kX5_read_flt (l : Launch) (G : zG) (m : Nat → Nat) (σ : Nat → Nat) (V : Nat → Nat → Nat) (ζ : Nat → Nat) (ns : Nat) (x : Nat → Nat) (len : Nat) (B : Nat → Int32) {N : Nat} (k : Nat) (hO : Ok N σ) (hns : ns ≤ 4) (hlen : len ≤ 100) (htx : ∀ i, i < 100 → x i < 65536) (hk : k < nS σ) (hq : flt x len ≠ 200) (hd : va_D (fun _ => True) (wM G m σ V ζ ns x len B)) : Met l yX5_read wsX5_read (zRm 8 183) (zPc G [.ref (m 0), .int (nI k)] (va_P G.1 vwCl (wM G m σ V ζ ns x len B))) (zQ (zA (wM G m σ V ζ ns x len B)) (some (.int ((-2)))) (va_P G.1 vwCl (wM G m σ V ζ ns x len B))) 0 0 (zA (wM G m σ V ζ ns x len B)) := by
  refine zmkWi (w := (wM G m σ V ζ ns x len B)) hd (cc := cX5_read) (maxL := 6) (by decide) rfl (Nat.le_of_ble_eq_true rfl) ?_
  intro pr en st mi ar bl me cd ls Q hx hb hml hown hts hG hP hl hD hS hret
  have hown : st.vm.findClass RX5 = some mi.cls := hown
  have hl : lv_has ls 6 [(0, .ref (m 0)), (1, .int (nI k))] := hl
  have hP : va_P G.1 vwCl (wM G m σ V ζ ns x len B) st.heap := hP
  have hD : va_D (zA (wM G m σ V ζ ns x len B)) (wM G m σ V ζ ns x len B) := hD
  have hc := hO.c
  have hs := hO.lS
  have hr := hO.lR
  have hne := hO.lE
  have hvs : 0 ≤ nI k ∧ nI k < nI (nS σ) := z_in hk (by omega)
  have hfl := flt_le x len hlen
  refine lv_aload_n hx hb dX5_read_0 rfl (lv_at hl 0 rfl) ?_
  refine lv_iload_n hx hb dX5_read_1 rfl (lv_at hl 1 rfl) ?_
  refine zrdV (As := [.int (nI k)]) ⟨hx, hb, hml, hown, hts⟩ (kX5_isSheet l G m σ V ζ ns x len B (nI k)) (cwV 1 hts gX5_read_X5_isSheet rfl rfl rfl (by decide +kernel) ⟨Nat.le_of_ble_eq_true rfl, Nat.le_of_ble_eq_true rfl⟩) hG (va_recv (q0 := 0) (ci := 5) hG.1 hP rfl rfl) (hP) rfl rfl hl.1 dX5_read_2 (Nat.le_of_ble_eq_true rfl) ⟨Nat.le_of_ble_eq_true rfl, Nat.le_of_ble_eq_true rfl⟩ ?_
  refine lv_if_ne (tgt := 10) hx hb dX5_read_5 (by decide) (fun h5 => ?_) (fun h5 => ?_)
  · skip
    have h5 : ¬ (¬ (0 ≤ (nI k) ∧ (nI k) < nI (nS σ))) := fun q => h5 ((z_b0).mpr q)
    have h5 : 0 ≤ (nI k) ∧ (nI k) < nI (nS σ) := Decidable.of_not_not h5
    refine lv_aload_n hx hb dX5_read_10 rfl (lv_at hl 0 rfl) ?_
    refine zrdV (As := []) ⟨hx, hb, hml, hown, hts⟩ (kX5_faultAt l G m σ V ζ ns x len B (hlen) (htx)) (cwV 0 hts gX5_read_X5_faultAt rfl rfl rfl (by decide +kernel) ⟨Nat.le_of_ble_eq_true rfl, Nat.le_of_ble_eq_true rfl⟩) hG (va_recv (q0 := 0) (ci := 5) hG.1 hP rfl rfl) (hP) rfl rfl hl.1 dX5_read_11 (Nat.le_of_ble_eq_true rfl) ⟨Nat.le_of_ble_eq_true rfl, Nat.le_of_ble_eq_true rfl⟩ ?_
    refine lv_bipush (v := (-4)) hx hb dX5_read_14 (by decide) ?_
    refine lv_icmp_eq (tgt := 22) hx hb dX5_read_16 (by decide) (fun h16 => ?_) (fun h16 => ?_)
    · skip
      have h16 : flt x len = 200 := (zc_m4 (by omega)).mp h16
      exact absurd h16 hq
    · skip
      have h16 : ¬ (flt x len = 200) := fun q => h16 ((zc_m4 (by omega)).mpr q)
      refine lv_bipush (v := (-2)) hx hb dX5_read_19 (by decide) ?_
      exact hret _ _ _ _ _ dX5_read_21 hS (hP) (rfl)
  · skip
    have h5 : ¬ (0 ≤ (nI k) ∧ (nI k) < nI (nS σ)) := (z_b0).mp h5
    exact absurd hvs h5
set_option maxHeartbeats 4000000 in
set_option maxRecDepth 100000 in
theorem kX5_read_empty (l : Launch) (G : zG) (m : Nat → Nat) (σ : Nat → Nat) (V : Nat → Nat → Nat) (ζ : Nat → Nat) (ns : Nat) (x : Nat → Nat) (len : Nat) (B : Nat → Int32) {N : Nat} (k : Nat) (hO : Ok N σ) (hns : ns ≤ 4) (hlen : len ≤ 100) (htx : ∀ i, i < 100 → x i < 65536) (hk : k < nS σ) (hq : flt x len = 200) (hzc : (tkR x k σ len).2.2.2.1 = 0) (hg : ¬ (((tkR x k σ len).2.2.2.2) 2 ≠ 0 ∧ 0 < brA ((tkR x k σ len).2.2.2.2) (nE ((tkR x k σ len).2.2.2.2)))) (hd : va_D (fun _ => True) (wM G m σ V ζ ns x len B)) : Met l yX5_read wsX5_read (zRm 8 183) (zPc G [.ref (m 0), .int (nI k)] (va_P G.1 vwCl (wM G m σ V ζ ns x len B))) (zQ (zA (wM G m σ V ζ ns x len B)) (some (.int (nI ((tkR x k σ len).2.2.2.1)))) (va_P G.1 vwCl (wM G m (grs ((tkR x k σ len).2.2.2.2) (nE ((tkR x k σ len).2.2.2.2))) (updv V ns σ) σ (nN ns) x len B))) 0 0 (zA (wM G m σ V ζ ns x len B)) := by
  refine zmkWi (w := (wM G m σ V ζ ns x len B)) hd (cc := cX5_read) (maxL := 6) (by decide) rfl (Nat.le_of_ble_eq_true rfl) ?_
  intro pr en st mi ar bl me cd ls Q hx hb hml hown hts hG hP hl hD hS hret
  have hown : st.vm.findClass RX5 = some mi.cls := hown
  have hl : lv_has ls 6 [(0, .ref (m 0)), (1, .int (nI k))] := hl
  have hP : va_P G.1 vwCl (wM G m σ V ζ ns x len B) st.heap := hP
  have hD : va_D (zA (wM G m σ V ζ ns x len B)) (wM G m σ V ζ ns x len B) := hD
  have hinX5 : ∀ w ∈ wsX50, w ∈ wsX5_read := by decide +kernel
  have hf157 := hts (.fieldLink RX5 157 "MapSheetsModel" "typed" "I") (by decide +kernel)
  have hf19 := hts (.fieldLink RX5 19 "MapSheetsModel" "text" "[I") (by decide +kernel)
  have hc := hO.c
  have hs := hO.lS
  have hr := hO.lR
  have hne := hO.lE
  have hvs : 0 ≤ nI k ∧ nI k < nI (nS σ) := z_in hk (by omega)
  have hfl := flt_le x len hlen
  refine lv_aload_n hx hb dX5_read_0 rfl (lv_at hl 0 rfl) ?_
  refine lv_iload_n hx hb dX5_read_1 rfl (lv_at hl 1 rfl) ?_
  refine zrdV (As := [.int (nI k)]) ⟨hx, hb, hml, hown, hts⟩ (kX5_isSheet l G m σ V ζ ns x len B (nI k)) (cwV 1 hts gX5_read_X5_isSheet rfl rfl rfl (by decide +kernel) ⟨Nat.le_of_ble_eq_true rfl, Nat.le_of_ble_eq_true rfl⟩) hG (va_recv (q0 := 0) (ci := 5) hG.1 hP rfl rfl) (hP) rfl rfl hl.1 dX5_read_2 (Nat.le_of_ble_eq_true rfl) ⟨Nat.le_of_ble_eq_true rfl, Nat.le_of_ble_eq_true rfl⟩ ?_
  refine lv_if_ne (tgt := 10) hx hb dX5_read_5 (by decide) (fun h5 => ?_) (fun h5 => ?_)
  · skip
    have h5 : ¬ (¬ (0 ≤ (nI k) ∧ (nI k) < nI (nS σ))) := fun q => h5 ((z_b0).mpr q)
    have h5 : 0 ≤ (nI k) ∧ (nI k) < nI (nS σ) := Decidable.of_not_not h5
    refine lv_aload_n hx hb dX5_read_10 rfl (lv_at hl 0 rfl) ?_
    refine zrdV (As := []) ⟨hx, hb, hml, hown, hts⟩ (kX5_faultAt l G m σ V ζ ns x len B (hlen) (htx)) (cwV 0 hts gX5_read_X5_faultAt rfl rfl rfl (by decide +kernel) ⟨Nat.le_of_ble_eq_true rfl, Nat.le_of_ble_eq_true rfl⟩) hG (va_recv (q0 := 0) (ci := 5) hG.1 hP rfl rfl) (hP) rfl rfl hl.1 dX5_read_11 (Nat.le_of_ble_eq_true rfl) ⟨Nat.le_of_ble_eq_true rfl, Nat.le_of_ble_eq_true rfl⟩ ?_
    refine lv_bipush (v := (-4)) hx hb dX5_read_14 (by decide) ?_
    refine lv_icmp_eq (tgt := 22) hx hb dX5_read_16 (by decide) (fun h16 => ?_) (fun h16 => ?_)
    · skip
      have h16 : flt x len = 200 := (zc_m4 (by omega)).mp h16
      refine lv_aload_n hx hb dX5_read_22 rfl (lv_at hl 0 rfl) ?_
      refine zwrWv (G := G) (wc := (wM G m σ V ζ ns x len B)) (wc' := (wM G m σ V σ ns x len B)) (va_runV (As := []) (rest := []) ⟨hx, hb, hml, hown, hts⟩ (kX5_hold l G m σ V ζ ns x len B (zD_any hD)) (cwV 0 hts gX5_read_X5_hold rfl rfl rfl (by decide +kernel) ⟨Nat.le_of_ble_eq_true rfl, Nat.le_of_ble_eq_true rfl⟩) (zPreV hG (va_recv (q0 := 0) (ci := 5) hG.1 hP rfl rfl) (hP)) rfl rfl hl.1 rfl (lv_room (Nat.le_of_ble_eq_true rfl)) dX5_read_23 ⟨Nat.le_of_ble_eq_true rfl, Nat.le_of_ble_eq_true rfl⟩) hP hD hS (wM_map ..) (fun H locs hP hD hS => ?_)
      have hP : va_P G.1 vwCl (wM G m σ V σ ns x len B) H := hP
      have hD : va_D (zA (wM G m σ V ζ ns x len B)) (wM G m σ V σ ns x len B) := hD
      refine lv_iconst (v := nI 0) hx hb dX5_read_26 (by decide) ?_
      refine lv_istore_n (lv' := [(2, .int (nI 0)), (0, .ref (m 0)), (1, .int (nI k))]) hx hb dX5_read_27 rfl hl (by decide) rfl (fun ls hl => ?_)
      refine lv_iconst (v := nI 0) hx hb dX5_read_28 (by decide) ?_
      refine lv_istore_n (lv' := [(3, .int (nI 0)), (2, .int (nI 0)), (0, .ref (m 0)), (1, .int (nI k))]) hx hb dX5_read_29 rfl hl (by decide) rfl (fun ls hl => ?_)
      have loop30 : ∀ (n : Nat) (i : Nat) (c : Nat) (τ : Nat → Nat) (hs0 : stt x i = 0) (hz : ∀ j, j < i → stt x (j + 1) ≠ 5) (hcc : c = (tkR x k σ i).2.2.2.1) (hτ : τ = (tkR x k σ i).2.2.2.2) (hOτ : Ok N τ) (hi : i ≤ len) (hci : c ≤ i) (hn : len < i + n) (ls : Array Slot) (hl : lv_has ls 6 [(0, .ref (m 0)), (1, .int (nI k)), (2, .int (nI c)), (3, .int (nI i))]) (H : Heap) (locs : List Loc) (hP : va_P G.1 vwCl (wM G m τ V σ ns x len B) H) (hD : va_D (zA (wM G m σ V ζ ns x len B)) (wM G m τ V σ ns x len B)) (hS : va_S (zA (wM G m σ V ζ ns x len B)) st.heap H locs), W pr l en (zRm 8 183) st mi ar bl me cd H locs 0 0 Q (F0 mi 30 ls []) := by
        intro n
        induction n with
        | zero => intro i c τ hs0 hz hcc hτ hOτ hi hci hn ls hl H locs hP hD hS; exfalso; omega
        | succ n ih30 =>
          intro i c τ hs0 hz hcc hτ hOτ hi hci hn ls hl H locs hP hD hS
          refine lv_iload_n hx hb dX5_read_30 rfl (lv_at hl 3 rfl) ?_
          refine lv_aload_n hx hb dX5_read_31 rfl (lv_at hl 0 rfl) ?_
          refine va_get (D := G.1) (ci := 5) (v := .int (nI len)) (C := RX5) (T := TX5) (N := 7) hx hb hts hinX5 hown hG.1 hP 0 rfl rfl 5 (by decide) hf157 (fun _ h9 => h9) rfl dX5_read_32 ?_
          refine lv_icmp_ge (tgt := 111) hx hb dX5_read_35 (by decide) (fun h35 => ?_) (fun h35 => ?_)
          · skip
            have h35 : len ≤ i := (nI_leI (by omega) (by omega)).mp h35
            obtain rfl : len = i := (by omega)
            refine lv_aload_n hx hb dX5_read_111 rfl (lv_at hl 0 rfl) ?_
            refine lv_iload_n hx hb dX5_read_112 rfl (lv_at hl 1 rfl) ?_
            refine lv_iload_n hx hb dX5_read_113 rfl (lv_at hl 2 rfl) ?_
            refine lv_if_le (tgt := 121) hx hb dX5_read_114 (by decide) (fun h114 => ?_) (fun h114 => ?_)
            · skip
              have h114 : c = 0 := (z_le0 (by omega)).mp h114
              refine lv_iconst (v := nI 0) hx hb dX5_read_121 (by decide) ?_
              refine lv_iload_n hx hb dX5_read_122 rfl (lv_at hl 2 rfl) ?_
              refine zwrW (G := G) (wc := (wM G m τ V σ ns x len B)) (wc' := (wM G m (grs τ (nE τ)) (updv V ns σ) σ (nN ns) x len B)) (va_runV (As := [.int (nI k), .int (nI 0), .int (nI c)]) (rest := []) ⟨hx, hb, hml, hown, hts⟩ (kX5_keeps_0 l G m τ V σ ns x len B k c (hOτ) (by omega) (by rw [hτ]; exact hg) (zD_any hD)) (cwV 3 hts gX5_read_X5_keeps rfl rfl rfl (by decide +kernel) ⟨Nat.le_of_ble_eq_true rfl, Nat.le_of_ble_eq_true rfl⟩) (zPreV hG (va_recv (q0 := 0) (ci := 5) hG.1 hP rfl rfl) (hP)) rfl rfl hl.1 rfl (lv_room (Nat.le_of_ble_eq_true rfl)) dX5_read_123 ⟨Nat.le_of_ble_eq_true rfl, Nat.le_of_ble_eq_true rfl⟩) hP hD hS (wM_map ..) (fun H locs hP hD hS => ?_)
              have hP : va_P G.1 vwCl (wM G m (grs τ (nE τ)) (updv V ns σ) σ (nN ns) x len B) H := hP
              have hD : va_D (zA (wM G m σ V ζ ns x len B)) (wM G m (grs τ (nE τ)) (updv V ns σ) σ (nN ns) x len B) := hD
              exact hret _ _ _ _ _ dX5_read_126 hS (by rw [← hτ]; exact hP) (congrArg nI (hcc))
            · skip
              have h114 : ¬ (c = 0) := fun q => h114 ((z_le0 (by omega)).mpr q)
              have h114 : 0 < c := Nat.pos_of_ne_zero h114
              exfalso; omega
          · skip
            have h35 : ¬ (len ≤ i) := fun q => h35 ((nI_leI (by omega) (by omega)).mpr q)
            refine lv_aload_n hx hb dX5_read_38 rfl (lv_at hl 0 rfl) ?_
            refine lv_iload_n hx hb dX5_read_39 rfl (lv_at hl 3 rfl) ?_
            refine zrdV (As := [.int (nI i)]) ⟨hx, hb, hml, hown, hts⟩ (kX5_itemAt l G m τ V σ ns x len B i (hlen) (htx) (by omega)) (cwV 1 hts gX5_read_X5_itemAt rfl rfl rfl (by decide +kernel) ⟨Nat.le_of_ble_eq_true rfl, Nat.le_of_ble_eq_true rfl⟩) hG (va_recv (q0 := 0) (ci := 5) hG.1 hP rfl rfl) (hP) rfl rfl hl.1 dX5_read_40 (Nat.le_of_ble_eq_true rfl) ⟨Nat.le_of_ble_eq_true rfl, Nat.le_of_ble_eq_true rfl⟩ ?_
            rcases itm_spec hs0 (show i < len by omega) hz with q | q | q
            · skip
              obtain ⟨e1, e2, e3, e4, e5, e6⟩ := q
              rw [show itR (itm x len i) = nI 4 by rw [e1]; rfl]
              have hz4 : ∀ j, j < i + 4 → stt x (j + 1) ≠ 5 := fun j hj => by rcases (show j < i ∨ j = i ∨ j = i + 1 ∨ j = i + 2 ∨ j = i + 3 by omega) with z | z | z | z | z; exact hz j z; (rw [z]; exact ne5 e3 (by decide)); (rw [z]; exact ne5 e4 (by decide)); (rw [z]; exact ne5 e5 (by decide)); (rw [z]; exact ne5 e6 (by decide))
              have hd1 : 48 ≤ x (i + 1) ∧ x (i + 1) ≤ 57 := by have y := st1 e3; by_cases z : 48 ≤ x (i + 1) ∧ x (i + 1) ≤ 57; exact z; (rw [if_neg z] at y; exact absurd e4 (by rw [show stt x (i + 2) = 5 from y]; decide))
              have hsd4 : sdN (x i) ≠ 4 := fun z => by have y := st0 hs0; rw [if_pos z] at y; rw [y] at e3; exact absurd e3 (by decide)
              have hsl := sdN_le (x i)
              have hxi1 := htx (i + 1) (by omega)
              have hxi0 := htx i (by omega)
              refine lv_istore (lv' := [(4, .int (nI 4)), (0, .ref (m 0)), (1, .int (nI k)), (2, .int (nI c)), (3, .int (nI i))]) hx hb dX5_read_43 hl (by decide) rfl (fun ls hl => ?_)
              refine lv_iload hx hb dX5_read_45 (lv_at hl 0 rfl) ?_
              refine lv_iconst (v := nI 4) hx hb dX5_read_47 (by decide) ?_
              refine lv_icmp_ne (tgt := 56) hx hb dX5_read_48 (by decide) (fun h48 => ?_) (fun h48 => ?_)
              · skip
                have h48 : ¬ (4 = 4) := fun q => h48 ((nI_eq (by omega) (by omega)).mpr q)
                exfalso; omega
              · skip
                have h48 : 4 = 4 := (nI_eq (by omega) (by omega)).mp h48
                refine lv_bipush (v := nI 10) hx hb dX5_read_51 (by decide) ?_
                refine lv_goto (tgt := 67) hx hb dX5_read_53 (by decide) ?_
                refine lv_istore (lv' := [(5, .int (nI 10)), (4, .int (nI 4)), (0, .ref (m 0)), (1, .int (nI k)), (2, .int (nI c)), (3, .int (nI i))]) hx hb dX5_read_67 hl (by decide) rfl (fun ls hl => ?_)
                refine lv_aload_n hx hb dX5_read_69 rfl (lv_at hl 2 rfl) ?_
                refine lv_iload_n hx hb dX5_read_70 rfl (lv_at hl 3 rfl) ?_
                refine lv_bipush (v := nI 10) hx hb dX5_read_71 (by decide) ?_
                refine lv_aload_n hx hb dX5_read_73 rfl (lv_at hl 2 rfl) ?_
                refine va_get (D := G.1) (ci := 5) (v := .ref (m 4)) (C := RX5) (T := TX5) (N := 7) hx hb hts hinX5 hown hG.1 hP 0 rfl rfl 4 (by decide) hf19 (fun _ h9 => h9) rfl dX5_read_74 ?_
                refine lv_iload_n hx hb dX5_read_77 rfl (lv_at hl 5 rfl) ?_
                refine va_iald hx hb hG.1 hP 4 0 rfl rfl (vp_in_nI (n := i) (N := 100) (by omega) (by omega)) dX5_read_78 ?_
                refine lv_topi (nm_r (e' := nI (x i)) (by rw [nI_clamp (by omega)]) ?_)
                refine zrdS (As := [.int (nI (x i))]) ⟨hx, hb, hml, hown, hts⟩ (kX5_sideNamed l G  (x i) (by omega)) (va_cwS 1 hts gX5_read_X5_sideNamed rfl rfl rfl (by decide +kernel) ⟨Nat.le_of_ble_eq_true rfl, Nat.le_of_ble_eq_true rfl⟩) hG (trivial) rfl rfl hl.1 dX5_read_79 (Nat.le_of_ble_eq_true rfl) ⟨Nat.le_of_ble_eq_true rfl, Nat.le_of_ble_eq_true rfl⟩ ?_
                have hf79_0 := sdN_le ((x i))
                refine lv_topi (nm_r (e' := nI (sdN (x i))) (zc_n hsd4) ?_)
                refine lv_imul hx hb dX5_read_82 ?_
                refine lv_topi (nm_r (e' := nI (10 * (sdN (x i)))) (pk_mul _ _) ?_)
                refine lv_aload_n hx hb dX5_read_83 rfl (lv_at hl 2 rfl) ?_
                refine va_get (D := G.1) (ci := 5) (v := .ref (m 4)) (C := RX5) (T := TX5) (N := 7) hx hb hts hinX5 hown hG.1 hP 0 rfl rfl 4 (by decide) hf19 (fun _ h9 => h9) rfl dX5_read_84 ?_
                refine lv_iload_n hx hb dX5_read_87 rfl (lv_at hl 5 rfl) ?_
                refine lv_iconst (v := nI 1) hx hb dX5_read_88 (by decide) ?_
                refine lv_iadd hx hb dX5_read_89 ?_
                refine lv_topi (nm_r (e' := nI (i + 1)) (nI_add _ _) ?_)
                refine va_iald hx hb hG.1 hP 4 0 rfl rfl (vp_in_nI (n := i + 1) (N := 100) (by omega) (by omega)) dX5_read_90 ?_
                refine lv_topi (nm_r (e' := nI (x (i + 1))) (by rw [nI_clamp (by omega)]) ?_)
                refine lv_iadd hx hb dX5_read_91 ?_
                refine lv_topi (nm_r (e' := nI ((10 * (sdN (x i))) + (x (i + 1)))) (nI_add _ _) ?_)
                refine lv_bipush (v := nI 48) hx hb dX5_read_92 (by decide) ?_
                refine lv_isub hx hb dX5_read_94 ?_
                refine lv_topi (nm_r (e' := nI (((10 * (sdN (x i))) + (x (i + 1))) - 48)) (pk_sub (by omega)) ?_)
                refine lv_topi (nm_r (e' := nI (10 * sdN (x i) + (x (i + 1) - 48))) (congrArg nI (by omega)) ?_)
                refine lv_iload hx hb dX5_read_95 (lv_at hl 0 rfl) ?_
                refine zwrWv (G := G) (wc := (wM G m τ V σ ns x len B)) (wc' := (wM G m (su τ (64 + 53 * k + (10 * sdN (x i) + (x (i + 1) - 48))) 10) V σ ns x len B)) (va_runV (As := [.int (nI k), .int (nI (10 * sdN (x i) + (x (i + 1) - 48))), .int (nI 10)]) (rest := []) ⟨hx, hb, hml, hown, hts⟩ (kX5_puts l G m τ V σ ns x len B k (10 * sdN (x i) + (x (i + 1) - 48)) 10 (by omega) (by omega) (by omega) (zD_any hD)) (cwV 3 hts gX5_read_X5_puts rfl rfl rfl (by decide +kernel) ⟨Nat.le_of_ble_eq_true rfl, Nat.le_of_ble_eq_true rfl⟩) (zPreV hG (va_recv (q0 := 0) (ci := 5) hG.1 hP rfl rfl) (hP)) rfl rfl hl.1 rfl (lv_room (Nat.le_of_ble_eq_true rfl)) dX5_read_97 ⟨Nat.le_of_ble_eq_true rfl, Nat.le_of_ble_eq_true rfl⟩) hP hD hS (wM_map ..) (fun H locs hP hD hS => ?_)
                have hP : va_P G.1 vwCl (wM G m (su τ (64 + 53 * k + (10 * sdN (x i) + (x (i + 1) - 48))) 10) V σ ns x len B) H := hP
                have hD : va_D (zA (wM G m σ V ζ ns x len B)) (wM G m (su τ (64 + 53 * k + (10 * sdN (x i) + (x (i + 1) - 48))) 10) V σ ns x len B) := hD
                refine lv_iinc (v := nI (c + 1)) (lv' := [(2, .int (nI (c + 1))), (5, .int (nI 10)), (4, .int (nI 4)), (0, .ref (m 0)), (1, .int (nI k)), (3, .int (nI i))]) hx hb dX5_read_100 hl (k := 4) rfl (zinc1 _) (by decide) rfl (fun ls hl => ?_)
                refine lv_iload_n hx hb dX5_read_103 rfl (lv_at hl 5 rfl) ?_
                refine lv_iload hx hb dX5_read_104 (lv_at hl 2 rfl) ?_
                refine lv_iadd hx hb dX5_read_106 ?_
                refine lv_topi (nm_r (e' := nI (i + 4)) (nI_add _ _) ?_)
                refine lv_istore_n (lv' := [(3, .int (nI (i + 4))), (2, .int (nI (c + 1))), (5, .int (nI 10)), (4, .int (nI 4)), (0, .ref (m 0)), (1, .int (nI k))]) hx hb dX5_read_107 rfl hl (by decide) rfl (fun ls hl => ?_)
                refine lv_goto (tgt := 30) hx hb dX5_read_108 (by decide) ?_
                exact ih30 (i + 4) (c + 1) (su τ (64 + 53 * k + (10 * sdN (x i) + (x (i + 1) - 48))) 10) (e6) (hz4) (by rw [(tk_4 (k := k) (σ := σ) hs0 e3 e4 e5).1, ← hcc]) (by rw [(tk_4 (k := k) (σ := σ) hs0 e3 e4 e5).2, ← hτ]) (hOτ.su_sg (by omega) (by omega)) (by omega) (by omega) (by omega) _ (lv_sub hl [4, 5, 1, 0] rfl) _ _ (hP) (hD) hS
            · skip
              obtain ⟨e1, e2, e3, e4, e5, e6, e7⟩ := q
              rw [show itR (itm x len i) = nI 5 by rw [e1]; rfl]
              have hz5 : ∀ j, j < i + 5 → stt x (j + 1) ≠ 5 := fun j hj => by rcases (show j < i ∨ j = i ∨ j = i + 1 ∨ j = i + 2 ∨ j = i + 3 ∨ j = i + 4 by omega) with z | z | z | z | z | z; exact hz j z; (rw [z]; exact ne5 e3 (by decide)); (rw [z]; exact ne5 e4 (by decide)); (rw [z]; exact ne5 e5 (by decide)); (rw [z]; exact ne5 e6 (by decide)); (rw [z]; exact ne5 e7 (by decide))
              have hd1 : 48 ≤ x (i + 1) ∧ x (i + 1) ≤ 57 := by have y := st1 e3; by_cases z : 48 ≤ x (i + 1) ∧ x (i + 1) ≤ 57; exact z; (rw [if_neg z] at y; exact absurd e4 (by rw [show stt x (i + 2) = 5 from y]; decide))
              have hsd4 : sdN (x i) ≠ 4 := fun z => by have y := st0 hs0; rw [if_pos z] at y; rw [y] at e3; exact absurd e3 (by decide)
              have hd3 : 48 ≤ x (i + 3) ∧ x (i + 3) ≤ 57 := by have y := st3 e5; by_cases z : 48 ≤ x (i + 3) ∧ x (i + 3) ≤ 57; exact z; (rw [if_neg z] at y; exact absurd e6 (by rw [show stt x (i + 4) = 5 from y]; decide))
              have hsl := sdN_le (x i)
              have hxi1 := htx (i + 1) (by omega)
              have hxi0 := htx i (by omega)
              have hxi3 := htx (i + 3) (by omega)
              refine lv_istore (lv' := [(4, .int (nI 5)), (0, .ref (m 0)), (1, .int (nI k)), (2, .int (nI c)), (3, .int (nI i))]) hx hb dX5_read_43 hl (by decide) rfl (fun ls hl => ?_)
              refine lv_iload hx hb dX5_read_45 (lv_at hl 0 rfl) ?_
              refine lv_iconst (v := nI 4) hx hb dX5_read_47 (by decide) ?_
              refine lv_icmp_ne (tgt := 56) hx hb dX5_read_48 (by decide) (fun h48 => ?_) (fun h48 => ?_)
              · skip
                have h48 : ¬ (5 = 4) := fun q => h48 ((nI_eq (by omega) (by omega)).mpr q)
                refine lv_aload_n hx hb dX5_read_56 rfl (lv_at hl 1 rfl) ?_
                refine va_get (D := G.1) (ci := 5) (v := .ref (m 4)) (C := RX5) (T := TX5) (N := 7) hx hb hts hinX5 hown hG.1 hP 0 rfl rfl 4 (by decide) hf19 (fun _ h9 => h9) rfl dX5_read_57 ?_
                refine lv_iload_n hx hb dX5_read_60 rfl (lv_at hl 4 rfl) ?_
                refine lv_iconst (v := nI 3) hx hb dX5_read_61 (by decide) ?_
                refine lv_iadd hx hb dX5_read_62 ?_
                refine lv_topi (nm_r (e' := nI (i + 3)) (nI_add _ _) ?_)
                refine va_iald hx hb hG.1 hP 4 0 rfl rfl (vp_in_nI (n := i + 3) (N := 100) (by omega) (by omega)) dX5_read_63 ?_
                refine lv_topi (nm_r (e' := nI (x (i + 3))) (by rw [nI_clamp (by omega)]) ?_)
                refine lv_bipush (v := nI 48) hx hb dX5_read_64 (by decide) ?_
                refine lv_isub hx hb dX5_read_66 ?_
                refine lv_topi (nm_r (e' := nI ((x (i + 3)) - 48)) (pk_sub (by omega)) ?_)
                refine lv_istore (lv' := [(5, .int (nI ((x (i + 3)) - 48))), (4, .int (nI 5)), (0, .ref (m 0)), (1, .int (nI k)), (2, .int (nI c)), (3, .int (nI i))]) hx hb dX5_read_67 hl (by decide) rfl (fun ls hl => ?_)
                refine lv_aload_n hx hb dX5_read_69 rfl (lv_at hl 2 rfl) ?_
                refine lv_iload_n hx hb dX5_read_70 rfl (lv_at hl 3 rfl) ?_
                refine lv_bipush (v := nI 10) hx hb dX5_read_71 (by decide) ?_
                refine lv_aload_n hx hb dX5_read_73 rfl (lv_at hl 2 rfl) ?_
                refine va_get (D := G.1) (ci := 5) (v := .ref (m 4)) (C := RX5) (T := TX5) (N := 7) hx hb hts hinX5 hown hG.1 hP 0 rfl rfl 4 (by decide) hf19 (fun _ h9 => h9) rfl dX5_read_74 ?_
                refine lv_iload_n hx hb dX5_read_77 rfl (lv_at hl 5 rfl) ?_
                refine va_iald hx hb hG.1 hP 4 0 rfl rfl (vp_in_nI (n := i) (N := 100) (by omega) (by omega)) dX5_read_78 ?_
                refine lv_topi (nm_r (e' := nI (x i)) (by rw [nI_clamp (by omega)]) ?_)
                refine zrdS (As := [.int (nI (x i))]) ⟨hx, hb, hml, hown, hts⟩ (kX5_sideNamed l G  (x i) (by omega)) (va_cwS 1 hts gX5_read_X5_sideNamed rfl rfl rfl (by decide +kernel) ⟨Nat.le_of_ble_eq_true rfl, Nat.le_of_ble_eq_true rfl⟩) hG (trivial) rfl rfl hl.1 dX5_read_79 (Nat.le_of_ble_eq_true rfl) ⟨Nat.le_of_ble_eq_true rfl, Nat.le_of_ble_eq_true rfl⟩ ?_
                have hf79_0 := sdN_le ((x i))
                refine lv_topi (nm_r (e' := nI (sdN (x i))) (zc_n hsd4) ?_)
                refine lv_imul hx hb dX5_read_82 ?_
                refine lv_topi (nm_r (e' := nI (10 * (sdN (x i)))) (pk_mul _ _) ?_)
                refine lv_aload_n hx hb dX5_read_83 rfl (lv_at hl 2 rfl) ?_
                refine va_get (D := G.1) (ci := 5) (v := .ref (m 4)) (C := RX5) (T := TX5) (N := 7) hx hb hts hinX5 hown hG.1 hP 0 rfl rfl 4 (by decide) hf19 (fun _ h9 => h9) rfl dX5_read_84 ?_
                refine lv_iload_n hx hb dX5_read_87 rfl (lv_at hl 5 rfl) ?_
                refine lv_iconst (v := nI 1) hx hb dX5_read_88 (by decide) ?_
                refine lv_iadd hx hb dX5_read_89 ?_
                refine lv_topi (nm_r (e' := nI (i + 1)) (nI_add _ _) ?_)
                refine va_iald hx hb hG.1 hP 4 0 rfl rfl (vp_in_nI (n := i + 1) (N := 100) (by omega) (by omega)) dX5_read_90 ?_
                refine lv_topi (nm_r (e' := nI (x (i + 1))) (by rw [nI_clamp (by omega)]) ?_)
                refine lv_iadd hx hb dX5_read_91 ?_
                refine lv_topi (nm_r (e' := nI ((10 * (sdN (x i))) + (x (i + 1)))) (nI_add _ _) ?_)
                refine lv_bipush (v := nI 48) hx hb dX5_read_92 (by decide) ?_
                refine lv_isub hx hb dX5_read_94 ?_
                refine lv_topi (nm_r (e' := nI (((10 * (sdN (x i))) + (x (i + 1))) - 48)) (pk_sub (by omega)) ?_)
                refine lv_topi (nm_r (e' := nI (10 * sdN (x i) + (x (i + 1) - 48))) (congrArg nI (by omega)) ?_)
                refine lv_iload hx hb dX5_read_95 (lv_at hl 0 rfl) ?_
                refine zwrWv (G := G) (wc := (wM G m τ V σ ns x len B)) (wc' := (wM G m (su τ (64 + 53 * k + (10 * sdN (x i) + (x (i + 1) - 48))) ((x (i + 3)) - 48)) V σ ns x len B)) (va_runV (As := [.int (nI k), .int (nI (10 * sdN (x i) + (x (i + 1) - 48))), .int (nI ((x (i + 3)) - 48))]) (rest := []) ⟨hx, hb, hml, hown, hts⟩ (kX5_puts l G m τ V σ ns x len B k (10 * sdN (x i) + (x (i + 1) - 48)) ((x (i + 3)) - 48) (by omega) (by omega) (by omega) (zD_any hD)) (cwV 3 hts gX5_read_X5_puts rfl rfl rfl (by decide +kernel) ⟨Nat.le_of_ble_eq_true rfl, Nat.le_of_ble_eq_true rfl⟩) (zPreV hG (va_recv (q0 := 0) (ci := 5) hG.1 hP rfl rfl) (hP)) rfl rfl hl.1 rfl (lv_room (Nat.le_of_ble_eq_true rfl)) dX5_read_97 ⟨Nat.le_of_ble_eq_true rfl, Nat.le_of_ble_eq_true rfl⟩) hP hD hS (wM_map ..) (fun H locs hP hD hS => ?_)
                have hP : va_P G.1 vwCl (wM G m (su τ (64 + 53 * k + (10 * sdN (x i) + (x (i + 1) - 48))) ((x (i + 3)) - 48)) V σ ns x len B) H := hP
                have hD : va_D (zA (wM G m σ V ζ ns x len B)) (wM G m (su τ (64 + 53 * k + (10 * sdN (x i) + (x (i + 1) - 48))) ((x (i + 3)) - 48)) V σ ns x len B) := hD
                refine lv_iinc (v := nI (c + 1)) (lv' := [(2, .int (nI (c + 1))), (5, .int (nI ((x (i + 3)) - 48))), (4, .int (nI 5)), (0, .ref (m 0)), (1, .int (nI k)), (3, .int (nI i))]) hx hb dX5_read_100 hl (k := 4) rfl (zinc1 _) (by decide) rfl (fun ls hl => ?_)
                refine lv_iload_n hx hb dX5_read_103 rfl (lv_at hl 5 rfl) ?_
                refine lv_iload hx hb dX5_read_104 (lv_at hl 2 rfl) ?_
                refine lv_iadd hx hb dX5_read_106 ?_
                refine lv_topi (nm_r (e' := nI (i + 5)) (nI_add _ _) ?_)
                refine lv_istore_n (lv' := [(3, .int (nI (i + 5))), (2, .int (nI (c + 1))), (5, .int (nI ((x (i + 3)) - 48))), (4, .int (nI 5)), (0, .ref (m 0)), (1, .int (nI k))]) hx hb dX5_read_107 rfl hl (by decide) rfl (fun ls hl => ?_)
                refine lv_goto (tgt := 30) hx hb dX5_read_108 (by decide) ?_
                exact ih30 (i + 5) (c + 1) (su τ (64 + 53 * k + (10 * sdN (x i) + (x (i + 1) - 48))) ((x (i + 3)) - 48)) (e7) (hz5) (by rw [(tk_5 (k := k) (σ := σ) hs0 e3 e4 e5 e6).1, ← hcc]) (by rw [(tk_5 (k := k) (σ := σ) hs0 e3 e4 e5 e6).2, ← hτ]) (hOτ.su_sg (by omega) (by omega)) (by omega) (by omega) (by omega) _ (lv_sub hl [4, 5, 1, 0] rfl) _ _ (hP) (hD) hS
              · skip
                have h48 : 5 = 4 := (nI_eq (by omega) (by omega)).mp h48
                exfalso; omega
            · exfalso; obtain ⟨e1, e2⟩ := q; omega
      exact loop30 (len + 1) 0 0 σ (rfl) (fun j hj => absurd hj (Nat.not_lt_zero j)) (rfl) (rfl) (hO) (by omega) (by omega) (by omega) _ (lv_sub hl [2, 3, 1, 0] rfl) _ _ (hP) (hD) hS
    · skip
      have h16 : ¬ (flt x len = 200) := fun q => h16 ((zc_m4 (by omega)).mpr q)
      exact absurd hq h16
  · skip
    have h5 : ¬ (0 ≤ (nI k) ∧ (nI k) < nI (nS σ)) := (z_b0).mp h5
    exact absurd hvs h5
set_option maxHeartbeats 4000000 in
set_option maxRecDepth 100000 in
theorem kX5_read_ok (l : Launch) (G : zG) (m : Nat → Nat) (σ : Nat → Nat) (V : Nat → Nat → Nat) (ζ : Nat → Nat) (ns : Nat) (x : Nat → Nat) (len : Nat) (B : Nat → Int32) {N : Nat} (k : Nat) (hO : Ok N σ) (hns : ns ≤ 4) (hlen : len ≤ 100) (htx : ∀ i, i < 100 → x i < 65536) (hk : k < nS σ) (hq : flt x len = 200) (hzc : 0 < (tkR x k σ len).2.2.2.1) (hg : ¬ (((tkR x k σ len).2.2.2.2) 2 ≠ 0 ∧ 0 < brA ((tkR x k σ len).2.2.2.2) (nE ((tkR x k σ len).2.2.2.2)))) (hd : va_D (fun _ => True) (wM G m σ V ζ ns x len B)) : Met l yX5_read wsX5_read (zRm 8 183) (zPc G [.ref (m 0), .int (nI k)] (va_P G.1 vwCl (wM G m σ V ζ ns x len B))) (zQ (zA (wM G m σ V ζ ns x len B)) (some (.int (nI ((tkR x k σ len).2.2.2.1)))) (va_P G.1 vwCl (wM G m (su (grs ((tkR x k σ len).2.2.2.2) (nE ((tkR x k σ len).2.2.2.2))) (114 + 53 * k) (rvn (grs ((tkR x k σ len).2.2.2.2) (nE ((tkR x k σ len).2.2.2.2))) k + 1)) (updv V ns σ) σ (nN ns) x len B))) 0 0 (zA (wM G m σ V ζ ns x len B)) := by
  refine zmkWi (w := (wM G m σ V ζ ns x len B)) hd (cc := cX5_read) (maxL := 6) (by decide) rfl (Nat.le_of_ble_eq_true rfl) ?_
  intro pr en st mi ar bl me cd ls Q hx hb hml hown hts hG hP hl hD hS hret
  have hown : st.vm.findClass RX5 = some mi.cls := hown
  have hl : lv_has ls 6 [(0, .ref (m 0)), (1, .int (nI k))] := hl
  have hP : va_P G.1 vwCl (wM G m σ V ζ ns x len B) st.heap := hP
  have hD : va_D (zA (wM G m σ V ζ ns x len B)) (wM G m σ V ζ ns x len B) := hD
  have hinX5 : ∀ w ∈ wsX50, w ∈ wsX5_read := by decide +kernel
  have hf157 := hts (.fieldLink RX5 157 "MapSheetsModel" "typed" "I") (by decide +kernel)
  have hf19 := hts (.fieldLink RX5 19 "MapSheetsModel" "text" "[I") (by decide +kernel)
  have hc := hO.c
  have hs := hO.lS
  have hr := hO.lR
  have hne := hO.lE
  have hvs : 0 ≤ nI k ∧ nI k < nI (nS σ) := z_in hk (by omega)
  have hfl := flt_le x len hlen
  refine lv_aload_n hx hb dX5_read_0 rfl (lv_at hl 0 rfl) ?_
  refine lv_iload_n hx hb dX5_read_1 rfl (lv_at hl 1 rfl) ?_
  refine zrdV (As := [.int (nI k)]) ⟨hx, hb, hml, hown, hts⟩ (kX5_isSheet l G m σ V ζ ns x len B (nI k)) (cwV 1 hts gX5_read_X5_isSheet rfl rfl rfl (by decide +kernel) ⟨Nat.le_of_ble_eq_true rfl, Nat.le_of_ble_eq_true rfl⟩) hG (va_recv (q0 := 0) (ci := 5) hG.1 hP rfl rfl) (hP) rfl rfl hl.1 dX5_read_2 (Nat.le_of_ble_eq_true rfl) ⟨Nat.le_of_ble_eq_true rfl, Nat.le_of_ble_eq_true rfl⟩ ?_
  refine lv_if_ne (tgt := 10) hx hb dX5_read_5 (by decide) (fun h5 => ?_) (fun h5 => ?_)
  · skip
    have h5 : ¬ (¬ (0 ≤ (nI k) ∧ (nI k) < nI (nS σ))) := fun q => h5 ((z_b0).mpr q)
    have h5 : 0 ≤ (nI k) ∧ (nI k) < nI (nS σ) := Decidable.of_not_not h5
    refine lv_aload_n hx hb dX5_read_10 rfl (lv_at hl 0 rfl) ?_
    refine zrdV (As := []) ⟨hx, hb, hml, hown, hts⟩ (kX5_faultAt l G m σ V ζ ns x len B (hlen) (htx)) (cwV 0 hts gX5_read_X5_faultAt rfl rfl rfl (by decide +kernel) ⟨Nat.le_of_ble_eq_true rfl, Nat.le_of_ble_eq_true rfl⟩) hG (va_recv (q0 := 0) (ci := 5) hG.1 hP rfl rfl) (hP) rfl rfl hl.1 dX5_read_11 (Nat.le_of_ble_eq_true rfl) ⟨Nat.le_of_ble_eq_true rfl, Nat.le_of_ble_eq_true rfl⟩ ?_
    refine lv_bipush (v := (-4)) hx hb dX5_read_14 (by decide) ?_
    refine lv_icmp_eq (tgt := 22) hx hb dX5_read_16 (by decide) (fun h16 => ?_) (fun h16 => ?_)
    · skip
      have h16 : flt x len = 200 := (zc_m4 (by omega)).mp h16
      refine lv_aload_n hx hb dX5_read_22 rfl (lv_at hl 0 rfl) ?_
      refine zwrWv (G := G) (wc := (wM G m σ V ζ ns x len B)) (wc' := (wM G m σ V σ ns x len B)) (va_runV (As := []) (rest := []) ⟨hx, hb, hml, hown, hts⟩ (kX5_hold l G m σ V ζ ns x len B (zD_any hD)) (cwV 0 hts gX5_read_X5_hold rfl rfl rfl (by decide +kernel) ⟨Nat.le_of_ble_eq_true rfl, Nat.le_of_ble_eq_true rfl⟩) (zPreV hG (va_recv (q0 := 0) (ci := 5) hG.1 hP rfl rfl) (hP)) rfl rfl hl.1 rfl (lv_room (Nat.le_of_ble_eq_true rfl)) dX5_read_23 ⟨Nat.le_of_ble_eq_true rfl, Nat.le_of_ble_eq_true rfl⟩) hP hD hS (wM_map ..) (fun H locs hP hD hS => ?_)
      have hP : va_P G.1 vwCl (wM G m σ V σ ns x len B) H := hP
      have hD : va_D (zA (wM G m σ V ζ ns x len B)) (wM G m σ V σ ns x len B) := hD
      refine lv_iconst (v := nI 0) hx hb dX5_read_26 (by decide) ?_
      refine lv_istore_n (lv' := [(2, .int (nI 0)), (0, .ref (m 0)), (1, .int (nI k))]) hx hb dX5_read_27 rfl hl (by decide) rfl (fun ls hl => ?_)
      refine lv_iconst (v := nI 0) hx hb dX5_read_28 (by decide) ?_
      refine lv_istore_n (lv' := [(3, .int (nI 0)), (2, .int (nI 0)), (0, .ref (m 0)), (1, .int (nI k))]) hx hb dX5_read_29 rfl hl (by decide) rfl (fun ls hl => ?_)
      have loop30 : ∀ (n : Nat) (i : Nat) (c : Nat) (τ : Nat → Nat) (hs0 : stt x i = 0) (hz : ∀ j, j < i → stt x (j + 1) ≠ 5) (hcc : c = (tkR x k σ i).2.2.2.1) (hτ : τ = (tkR x k σ i).2.2.2.2) (hOτ : Ok N τ) (hi : i ≤ len) (hci : c ≤ i) (hn : len < i + n) (ls : Array Slot) (hl : lv_has ls 6 [(0, .ref (m 0)), (1, .int (nI k)), (2, .int (nI c)), (3, .int (nI i))]) (H : Heap) (locs : List Loc) (hP : va_P G.1 vwCl (wM G m τ V σ ns x len B) H) (hD : va_D (zA (wM G m σ V ζ ns x len B)) (wM G m τ V σ ns x len B)) (hS : va_S (zA (wM G m σ V ζ ns x len B)) st.heap H locs), W pr l en (zRm 8 183) st mi ar bl me cd H locs 0 0 Q (F0 mi 30 ls []) := by
        intro n
        induction n with
        | zero => intro i c τ hs0 hz hcc hτ hOτ hi hci hn ls hl H locs hP hD hS; exfalso; omega
        | succ n ih30 =>
          intro i c τ hs0 hz hcc hτ hOτ hi hci hn ls hl H locs hP hD hS
          refine lv_iload_n hx hb dX5_read_30 rfl (lv_at hl 3 rfl) ?_
          refine lv_aload_n hx hb dX5_read_31 rfl (lv_at hl 0 rfl) ?_
          refine va_get (D := G.1) (ci := 5) (v := .int (nI len)) (C := RX5) (T := TX5) (N := 7) hx hb hts hinX5 hown hG.1 hP 0 rfl rfl 5 (by decide) hf157 (fun _ h9 => h9) rfl dX5_read_32 ?_
          refine lv_icmp_ge (tgt := 111) hx hb dX5_read_35 (by decide) (fun h35 => ?_) (fun h35 => ?_)
          · skip
            have h35 : len ≤ i := (nI_leI (by omega) (by omega)).mp h35
            obtain rfl : len = i := (by omega)
            refine lv_aload_n hx hb dX5_read_111 rfl (lv_at hl 0 rfl) ?_
            refine lv_iload_n hx hb dX5_read_112 rfl (lv_at hl 1 rfl) ?_
            refine lv_iload_n hx hb dX5_read_113 rfl (lv_at hl 2 rfl) ?_
            refine lv_if_le (tgt := 121) hx hb dX5_read_114 (by decide) (fun h114 => ?_) (fun h114 => ?_)
            · skip
              have h114 : c = 0 := (z_le0 (by omega)).mp h114
              exfalso; omega
            · skip
              have h114 : ¬ (c = 0) := fun q => h114 ((z_le0 (by omega)).mpr q)
              have h114 : 0 < c := Nat.pos_of_ne_zero h114
              refine lv_iconst (v := nI 1) hx hb dX5_read_117 (by decide) ?_
              refine lv_goto (tgt := 122) hx hb dX5_read_118 (by decide) ?_
              refine lv_iload_n hx hb dX5_read_122 rfl (lv_at hl 2 rfl) ?_
              refine zwrW (G := G) (wc := (wM G m τ V σ ns x len B)) (wc' := (wM G m (su (grs τ (nE τ)) (114 + 53 * k) (rvn (grs τ (nE τ)) k + 1)) (updv V ns σ) σ (nN ns) x len B)) (va_runV (As := [.int (nI k), .int (nI 1), .int (nI c)]) (rest := []) ⟨hx, hb, hml, hown, hts⟩ (kX5_keeps_1 l G m τ V σ ns x len B k c (hOτ) (by omega) (by omega) (by rw [hτ]; exact hg) (zD_any hD)) (cwV 3 hts gX5_read_X5_keeps rfl rfl rfl (by decide +kernel) ⟨Nat.le_of_ble_eq_true rfl, Nat.le_of_ble_eq_true rfl⟩) (zPreV hG (va_recv (q0 := 0) (ci := 5) hG.1 hP rfl rfl) (hP)) rfl rfl hl.1 rfl (lv_room (Nat.le_of_ble_eq_true rfl)) dX5_read_123 ⟨Nat.le_of_ble_eq_true rfl, Nat.le_of_ble_eq_true rfl⟩) hP hD hS (wM_map ..) (fun H locs hP hD hS => ?_)
              have hP : va_P G.1 vwCl (wM G m (su (grs τ (nE τ)) (114 + 53 * k) (rvn (grs τ (nE τ)) k + 1)) (updv V ns σ) σ (nN ns) x len B) H := hP
              have hD : va_D (zA (wM G m σ V ζ ns x len B)) (wM G m (su (grs τ (nE τ)) (114 + 53 * k) (rvn (grs τ (nE τ)) k + 1)) (updv V ns σ) σ (nN ns) x len B) := hD
              exact hret _ _ _ _ _ dX5_read_126 hS (by rw [← hτ]; exact hP) (congrArg nI (hcc))
          · skip
            have h35 : ¬ (len ≤ i) := fun q => h35 ((nI_leI (by omega) (by omega)).mpr q)
            refine lv_aload_n hx hb dX5_read_38 rfl (lv_at hl 0 rfl) ?_
            refine lv_iload_n hx hb dX5_read_39 rfl (lv_at hl 3 rfl) ?_
            refine zrdV (As := [.int (nI i)]) ⟨hx, hb, hml, hown, hts⟩ (kX5_itemAt l G m τ V σ ns x len B i (hlen) (htx) (by omega)) (cwV 1 hts gX5_read_X5_itemAt rfl rfl rfl (by decide +kernel) ⟨Nat.le_of_ble_eq_true rfl, Nat.le_of_ble_eq_true rfl⟩) hG (va_recv (q0 := 0) (ci := 5) hG.1 hP rfl rfl) (hP) rfl rfl hl.1 dX5_read_40 (Nat.le_of_ble_eq_true rfl) ⟨Nat.le_of_ble_eq_true rfl, Nat.le_of_ble_eq_true rfl⟩ ?_
            rcases itm_spec hs0 (show i < len by omega) hz with q | q | q
            · skip
              obtain ⟨e1, e2, e3, e4, e5, e6⟩ := q
              rw [show itR (itm x len i) = nI 4 by rw [e1]; rfl]
              have hz4 : ∀ j, j < i + 4 → stt x (j + 1) ≠ 5 := fun j hj => by rcases (show j < i ∨ j = i ∨ j = i + 1 ∨ j = i + 2 ∨ j = i + 3 by omega) with z | z | z | z | z; exact hz j z; (rw [z]; exact ne5 e3 (by decide)); (rw [z]; exact ne5 e4 (by decide)); (rw [z]; exact ne5 e5 (by decide)); (rw [z]; exact ne5 e6 (by decide))
              have hd1 : 48 ≤ x (i + 1) ∧ x (i + 1) ≤ 57 := by have y := st1 e3; by_cases z : 48 ≤ x (i + 1) ∧ x (i + 1) ≤ 57; exact z; (rw [if_neg z] at y; exact absurd e4 (by rw [show stt x (i + 2) = 5 from y]; decide))
              have hsd4 : sdN (x i) ≠ 4 := fun z => by have y := st0 hs0; rw [if_pos z] at y; rw [y] at e3; exact absurd e3 (by decide)
              have hsl := sdN_le (x i)
              have hxi1 := htx (i + 1) (by omega)
              have hxi0 := htx i (by omega)
              refine lv_istore (lv' := [(4, .int (nI 4)), (0, .ref (m 0)), (1, .int (nI k)), (2, .int (nI c)), (3, .int (nI i))]) hx hb dX5_read_43 hl (by decide) rfl (fun ls hl => ?_)
              refine lv_iload hx hb dX5_read_45 (lv_at hl 0 rfl) ?_
              refine lv_iconst (v := nI 4) hx hb dX5_read_47 (by decide) ?_
              refine lv_icmp_ne (tgt := 56) hx hb dX5_read_48 (by decide) (fun h48 => ?_) (fun h48 => ?_)
              · skip
                have h48 : ¬ (4 = 4) := fun q => h48 ((nI_eq (by omega) (by omega)).mpr q)
                exfalso; omega
              · skip
                have h48 : 4 = 4 := (nI_eq (by omega) (by omega)).mp h48
                refine lv_bipush (v := nI 10) hx hb dX5_read_51 (by decide) ?_
                refine lv_goto (tgt := 67) hx hb dX5_read_53 (by decide) ?_
                refine lv_istore (lv' := [(5, .int (nI 10)), (4, .int (nI 4)), (0, .ref (m 0)), (1, .int (nI k)), (2, .int (nI c)), (3, .int (nI i))]) hx hb dX5_read_67 hl (by decide) rfl (fun ls hl => ?_)
                refine lv_aload_n hx hb dX5_read_69 rfl (lv_at hl 2 rfl) ?_
                refine lv_iload_n hx hb dX5_read_70 rfl (lv_at hl 3 rfl) ?_
                refine lv_bipush (v := nI 10) hx hb dX5_read_71 (by decide) ?_
                refine lv_aload_n hx hb dX5_read_73 rfl (lv_at hl 2 rfl) ?_
                refine va_get (D := G.1) (ci := 5) (v := .ref (m 4)) (C := RX5) (T := TX5) (N := 7) hx hb hts hinX5 hown hG.1 hP 0 rfl rfl 4 (by decide) hf19 (fun _ h9 => h9) rfl dX5_read_74 ?_
                refine lv_iload_n hx hb dX5_read_77 rfl (lv_at hl 5 rfl) ?_
                refine va_iald hx hb hG.1 hP 4 0 rfl rfl (vp_in_nI (n := i) (N := 100) (by omega) (by omega)) dX5_read_78 ?_
                refine lv_topi (nm_r (e' := nI (x i)) (by rw [nI_clamp (by omega)]) ?_)
                refine zrdS (As := [.int (nI (x i))]) ⟨hx, hb, hml, hown, hts⟩ (kX5_sideNamed l G  (x i) (by omega)) (va_cwS 1 hts gX5_read_X5_sideNamed rfl rfl rfl (by decide +kernel) ⟨Nat.le_of_ble_eq_true rfl, Nat.le_of_ble_eq_true rfl⟩) hG (trivial) rfl rfl hl.1 dX5_read_79 (Nat.le_of_ble_eq_true rfl) ⟨Nat.le_of_ble_eq_true rfl, Nat.le_of_ble_eq_true rfl⟩ ?_
                have hf79_0 := sdN_le ((x i))
                refine lv_topi (nm_r (e' := nI (sdN (x i))) (zc_n hsd4) ?_)
                refine lv_imul hx hb dX5_read_82 ?_
                refine lv_topi (nm_r (e' := nI (10 * (sdN (x i)))) (pk_mul _ _) ?_)
                refine lv_aload_n hx hb dX5_read_83 rfl (lv_at hl 2 rfl) ?_
                refine va_get (D := G.1) (ci := 5) (v := .ref (m 4)) (C := RX5) (T := TX5) (N := 7) hx hb hts hinX5 hown hG.1 hP 0 rfl rfl 4 (by decide) hf19 (fun _ h9 => h9) rfl dX5_read_84 ?_
                refine lv_iload_n hx hb dX5_read_87 rfl (lv_at hl 5 rfl) ?_
                refine lv_iconst (v := nI 1) hx hb dX5_read_88 (by decide) ?_
                refine lv_iadd hx hb dX5_read_89 ?_
                refine lv_topi (nm_r (e' := nI (i + 1)) (nI_add _ _) ?_)
                refine va_iald hx hb hG.1 hP 4 0 rfl rfl (vp_in_nI (n := i + 1) (N := 100) (by omega) (by omega)) dX5_read_90 ?_
                refine lv_topi (nm_r (e' := nI (x (i + 1))) (by rw [nI_clamp (by omega)]) ?_)
                refine lv_iadd hx hb dX5_read_91 ?_
                refine lv_topi (nm_r (e' := nI ((10 * (sdN (x i))) + (x (i + 1)))) (nI_add _ _) ?_)
                refine lv_bipush (v := nI 48) hx hb dX5_read_92 (by decide) ?_
                refine lv_isub hx hb dX5_read_94 ?_
                refine lv_topi (nm_r (e' := nI (((10 * (sdN (x i))) + (x (i + 1))) - 48)) (pk_sub (by omega)) ?_)
                refine lv_topi (nm_r (e' := nI (10 * sdN (x i) + (x (i + 1) - 48))) (congrArg nI (by omega)) ?_)
                refine lv_iload hx hb dX5_read_95 (lv_at hl 0 rfl) ?_
                refine zwrWv (G := G) (wc := (wM G m τ V σ ns x len B)) (wc' := (wM G m (su τ (64 + 53 * k + (10 * sdN (x i) + (x (i + 1) - 48))) 10) V σ ns x len B)) (va_runV (As := [.int (nI k), .int (nI (10 * sdN (x i) + (x (i + 1) - 48))), .int (nI 10)]) (rest := []) ⟨hx, hb, hml, hown, hts⟩ (kX5_puts l G m τ V σ ns x len B k (10 * sdN (x i) + (x (i + 1) - 48)) 10 (by omega) (by omega) (by omega) (zD_any hD)) (cwV 3 hts gX5_read_X5_puts rfl rfl rfl (by decide +kernel) ⟨Nat.le_of_ble_eq_true rfl, Nat.le_of_ble_eq_true rfl⟩) (zPreV hG (va_recv (q0 := 0) (ci := 5) hG.1 hP rfl rfl) (hP)) rfl rfl hl.1 rfl (lv_room (Nat.le_of_ble_eq_true rfl)) dX5_read_97 ⟨Nat.le_of_ble_eq_true rfl, Nat.le_of_ble_eq_true rfl⟩) hP hD hS (wM_map ..) (fun H locs hP hD hS => ?_)
                have hP : va_P G.1 vwCl (wM G m (su τ (64 + 53 * k + (10 * sdN (x i) + (x (i + 1) - 48))) 10) V σ ns x len B) H := hP
                have hD : va_D (zA (wM G m σ V ζ ns x len B)) (wM G m (su τ (64 + 53 * k + (10 * sdN (x i) + (x (i + 1) - 48))) 10) V σ ns x len B) := hD
                refine lv_iinc (v := nI (c + 1)) (lv' := [(2, .int (nI (c + 1))), (5, .int (nI 10)), (4, .int (nI 4)), (0, .ref (m 0)), (1, .int (nI k)), (3, .int (nI i))]) hx hb dX5_read_100 hl (k := 4) rfl (zinc1 _) (by decide) rfl (fun ls hl => ?_)
                refine lv_iload_n hx hb dX5_read_103 rfl (lv_at hl 5 rfl) ?_
                refine lv_iload hx hb dX5_read_104 (lv_at hl 2 rfl) ?_
                refine lv_iadd hx hb dX5_read_106 ?_
                refine lv_topi (nm_r (e' := nI (i + 4)) (nI_add _ _) ?_)
                refine lv_istore_n (lv' := [(3, .int (nI (i + 4))), (2, .int (nI (c + 1))), (5, .int (nI 10)), (4, .int (nI 4)), (0, .ref (m 0)), (1, .int (nI k))]) hx hb dX5_read_107 rfl hl (by decide) rfl (fun ls hl => ?_)
                refine lv_goto (tgt := 30) hx hb dX5_read_108 (by decide) ?_
                exact ih30 (i + 4) (c + 1) (su τ (64 + 53 * k + (10 * sdN (x i) + (x (i + 1) - 48))) 10) (e6) (hz4) (by rw [(tk_4 (k := k) (σ := σ) hs0 e3 e4 e5).1, ← hcc]) (by rw [(tk_4 (k := k) (σ := σ) hs0 e3 e4 e5).2, ← hτ]) (hOτ.su_sg (by omega) (by omega)) (by omega) (by omega) (by omega) _ (lv_sub hl [4, 5, 1, 0] rfl) _ _ (hP) (hD) hS
            · skip
              obtain ⟨e1, e2, e3, e4, e5, e6, e7⟩ := q
              rw [show itR (itm x len i) = nI 5 by rw [e1]; rfl]
              have hz5 : ∀ j, j < i + 5 → stt x (j + 1) ≠ 5 := fun j hj => by rcases (show j < i ∨ j = i ∨ j = i + 1 ∨ j = i + 2 ∨ j = i + 3 ∨ j = i + 4 by omega) with z | z | z | z | z | z; exact hz j z; (rw [z]; exact ne5 e3 (by decide)); (rw [z]; exact ne5 e4 (by decide)); (rw [z]; exact ne5 e5 (by decide)); (rw [z]; exact ne5 e6 (by decide)); (rw [z]; exact ne5 e7 (by decide))
              have hd1 : 48 ≤ x (i + 1) ∧ x (i + 1) ≤ 57 := by have y := st1 e3; by_cases z : 48 ≤ x (i + 1) ∧ x (i + 1) ≤ 57; exact z; (rw [if_neg z] at y; exact absurd e4 (by rw [show stt x (i + 2) = 5 from y]; decide))
              have hsd4 : sdN (x i) ≠ 4 := fun z => by have y := st0 hs0; rw [if_pos z] at y; rw [y] at e3; exact absurd e3 (by decide)
              have hd3 : 48 ≤ x (i + 3) ∧ x (i + 3) ≤ 57 := by have y := st3 e5; by_cases z : 48 ≤ x (i + 3) ∧ x (i + 3) ≤ 57; exact z; (rw [if_neg z] at y; exact absurd e6 (by rw [show stt x (i + 4) = 5 from y]; decide))
              have hsl := sdN_le (x i)
              have hxi1 := htx (i + 1) (by omega)
              have hxi0 := htx i (by omega)
              have hxi3 := htx (i + 3) (by omega)
              refine lv_istore (lv' := [(4, .int (nI 5)), (0, .ref (m 0)), (1, .int (nI k)), (2, .int (nI c)), (3, .int (nI i))]) hx hb dX5_read_43 hl (by decide) rfl (fun ls hl => ?_)
              refine lv_iload hx hb dX5_read_45 (lv_at hl 0 rfl) ?_
              refine lv_iconst (v := nI 4) hx hb dX5_read_47 (by decide) ?_
              refine lv_icmp_ne (tgt := 56) hx hb dX5_read_48 (by decide) (fun h48 => ?_) (fun h48 => ?_)
              · skip
                have h48 : ¬ (5 = 4) := fun q => h48 ((nI_eq (by omega) (by omega)).mpr q)
                refine lv_aload_n hx hb dX5_read_56 rfl (lv_at hl 1 rfl) ?_
                refine va_get (D := G.1) (ci := 5) (v := .ref (m 4)) (C := RX5) (T := TX5) (N := 7) hx hb hts hinX5 hown hG.1 hP 0 rfl rfl 4 (by decide) hf19 (fun _ h9 => h9) rfl dX5_read_57 ?_
                refine lv_iload_n hx hb dX5_read_60 rfl (lv_at hl 4 rfl) ?_
                refine lv_iconst (v := nI 3) hx hb dX5_read_61 (by decide) ?_
                refine lv_iadd hx hb dX5_read_62 ?_
                refine lv_topi (nm_r (e' := nI (i + 3)) (nI_add _ _) ?_)
                refine va_iald hx hb hG.1 hP 4 0 rfl rfl (vp_in_nI (n := i + 3) (N := 100) (by omega) (by omega)) dX5_read_63 ?_
                refine lv_topi (nm_r (e' := nI (x (i + 3))) (by rw [nI_clamp (by omega)]) ?_)
                refine lv_bipush (v := nI 48) hx hb dX5_read_64 (by decide) ?_
                refine lv_isub hx hb dX5_read_66 ?_
                refine lv_topi (nm_r (e' := nI ((x (i + 3)) - 48)) (pk_sub (by omega)) ?_)
                refine lv_istore (lv' := [(5, .int (nI ((x (i + 3)) - 48))), (4, .int (nI 5)), (0, .ref (m 0)), (1, .int (nI k)), (2, .int (nI c)), (3, .int (nI i))]) hx hb dX5_read_67 hl (by decide) rfl (fun ls hl => ?_)
                refine lv_aload_n hx hb dX5_read_69 rfl (lv_at hl 2 rfl) ?_
                refine lv_iload_n hx hb dX5_read_70 rfl (lv_at hl 3 rfl) ?_
                refine lv_bipush (v := nI 10) hx hb dX5_read_71 (by decide) ?_
                refine lv_aload_n hx hb dX5_read_73 rfl (lv_at hl 2 rfl) ?_
                refine va_get (D := G.1) (ci := 5) (v := .ref (m 4)) (C := RX5) (T := TX5) (N := 7) hx hb hts hinX5 hown hG.1 hP 0 rfl rfl 4 (by decide) hf19 (fun _ h9 => h9) rfl dX5_read_74 ?_
                refine lv_iload_n hx hb dX5_read_77 rfl (lv_at hl 5 rfl) ?_
                refine va_iald hx hb hG.1 hP 4 0 rfl rfl (vp_in_nI (n := i) (N := 100) (by omega) (by omega)) dX5_read_78 ?_
                refine lv_topi (nm_r (e' := nI (x i)) (by rw [nI_clamp (by omega)]) ?_)
                refine zrdS (As := [.int (nI (x i))]) ⟨hx, hb, hml, hown, hts⟩ (kX5_sideNamed l G  (x i) (by omega)) (va_cwS 1 hts gX5_read_X5_sideNamed rfl rfl rfl (by decide +kernel) ⟨Nat.le_of_ble_eq_true rfl, Nat.le_of_ble_eq_true rfl⟩) hG (trivial) rfl rfl hl.1 dX5_read_79 (Nat.le_of_ble_eq_true rfl) ⟨Nat.le_of_ble_eq_true rfl, Nat.le_of_ble_eq_true rfl⟩ ?_
                have hf79_0 := sdN_le ((x i))
                refine lv_topi (nm_r (e' := nI (sdN (x i))) (zc_n hsd4) ?_)
                refine lv_imul hx hb dX5_read_82 ?_
                refine lv_topi (nm_r (e' := nI (10 * (sdN (x i)))) (pk_mul _ _) ?_)
                refine lv_aload_n hx hb dX5_read_83 rfl (lv_at hl 2 rfl) ?_
                refine va_get (D := G.1) (ci := 5) (v := .ref (m 4)) (C := RX5) (T := TX5) (N := 7) hx hb hts hinX5 hown hG.1 hP 0 rfl rfl 4 (by decide) hf19 (fun _ h9 => h9) rfl dX5_read_84 ?_
                refine lv_iload_n hx hb dX5_read_87 rfl (lv_at hl 5 rfl) ?_
                refine lv_iconst (v := nI 1) hx hb dX5_read_88 (by decide) ?_
                refine lv_iadd hx hb dX5_read_89 ?_
                refine lv_topi (nm_r (e' := nI (i + 1)) (nI_add _ _) ?_)
                refine va_iald hx hb hG.1 hP 4 0 rfl rfl (vp_in_nI (n := i + 1) (N := 100) (by omega) (by omega)) dX5_read_90 ?_
                refine lv_topi (nm_r (e' := nI (x (i + 1))) (by rw [nI_clamp (by omega)]) ?_)
                refine lv_iadd hx hb dX5_read_91 ?_
                refine lv_topi (nm_r (e' := nI ((10 * (sdN (x i))) + (x (i + 1)))) (nI_add _ _) ?_)
                refine lv_bipush (v := nI 48) hx hb dX5_read_92 (by decide) ?_
                refine lv_isub hx hb dX5_read_94 ?_
                refine lv_topi (nm_r (e' := nI (((10 * (sdN (x i))) + (x (i + 1))) - 48)) (pk_sub (by omega)) ?_)
                refine lv_topi (nm_r (e' := nI (10 * sdN (x i) + (x (i + 1) - 48))) (congrArg nI (by omega)) ?_)
                refine lv_iload hx hb dX5_read_95 (lv_at hl 0 rfl) ?_
                refine zwrWv (G := G) (wc := (wM G m τ V σ ns x len B)) (wc' := (wM G m (su τ (64 + 53 * k + (10 * sdN (x i) + (x (i + 1) - 48))) ((x (i + 3)) - 48)) V σ ns x len B)) (va_runV (As := [.int (nI k), .int (nI (10 * sdN (x i) + (x (i + 1) - 48))), .int (nI ((x (i + 3)) - 48))]) (rest := []) ⟨hx, hb, hml, hown, hts⟩ (kX5_puts l G m τ V σ ns x len B k (10 * sdN (x i) + (x (i + 1) - 48)) ((x (i + 3)) - 48) (by omega) (by omega) (by omega) (zD_any hD)) (cwV 3 hts gX5_read_X5_puts rfl rfl rfl (by decide +kernel) ⟨Nat.le_of_ble_eq_true rfl, Nat.le_of_ble_eq_true rfl⟩) (zPreV hG (va_recv (q0 := 0) (ci := 5) hG.1 hP rfl rfl) (hP)) rfl rfl hl.1 rfl (lv_room (Nat.le_of_ble_eq_true rfl)) dX5_read_97 ⟨Nat.le_of_ble_eq_true rfl, Nat.le_of_ble_eq_true rfl⟩) hP hD hS (wM_map ..) (fun H locs hP hD hS => ?_)
                have hP : va_P G.1 vwCl (wM G m (su τ (64 + 53 * k + (10 * sdN (x i) + (x (i + 1) - 48))) ((x (i + 3)) - 48)) V σ ns x len B) H := hP
                have hD : va_D (zA (wM G m σ V ζ ns x len B)) (wM G m (su τ (64 + 53 * k + (10 * sdN (x i) + (x (i + 1) - 48))) ((x (i + 3)) - 48)) V σ ns x len B) := hD
                refine lv_iinc (v := nI (c + 1)) (lv' := [(2, .int (nI (c + 1))), (5, .int (nI ((x (i + 3)) - 48))), (4, .int (nI 5)), (0, .ref (m 0)), (1, .int (nI k)), (3, .int (nI i))]) hx hb dX5_read_100 hl (k := 4) rfl (zinc1 _) (by decide) rfl (fun ls hl => ?_)
                refine lv_iload_n hx hb dX5_read_103 rfl (lv_at hl 5 rfl) ?_
                refine lv_iload hx hb dX5_read_104 (lv_at hl 2 rfl) ?_
                refine lv_iadd hx hb dX5_read_106 ?_
                refine lv_topi (nm_r (e' := nI (i + 5)) (nI_add _ _) ?_)
                refine lv_istore_n (lv' := [(3, .int (nI (i + 5))), (2, .int (nI (c + 1))), (5, .int (nI ((x (i + 3)) - 48))), (4, .int (nI 5)), (0, .ref (m 0)), (1, .int (nI k))]) hx hb dX5_read_107 rfl hl (by decide) rfl (fun ls hl => ?_)
                refine lv_goto (tgt := 30) hx hb dX5_read_108 (by decide) ?_
                exact ih30 (i + 5) (c + 1) (su τ (64 + 53 * k + (10 * sdN (x i) + (x (i + 1) - 48))) ((x (i + 3)) - 48)) (e7) (hz5) (by rw [(tk_5 (k := k) (σ := σ) hs0 e3 e4 e5 e6).1, ← hcc]) (by rw [(tk_5 (k := k) (σ := σ) hs0 e3 e4 e5 e6).2, ← hτ]) (hOτ.su_sg (by omega) (by omega)) (by omega) (by omega) (by omega) _ (lv_sub hl [4, 5, 1, 0] rfl) _ _ (hP) (hD) hS
              · skip
                have h48 : 5 = 4 := (nI_eq (by omega) (by omega)).mp h48
                exfalso; omega
            · exfalso; obtain ⟨e1, e2⟩ := q; omega
      exact loop30 (len + 1) 0 0 σ (rfl) (fun j hj => absurd hj (Nat.not_lt_zero j)) (rfl) (rfl) (hO) (by omega) (by omega) (by omega) _ (lv_sub hl [2, 3, 1, 0] rfl) _ _ (hP) (hD) hS
    · skip
      have h16 : ¬ (flt x len = 200) := fun q => h16 ((zc_m4 (by omega)).mpr q)
      exact absurd hq h16
  · skip
    have h5 : ¬ (0 ≤ (nI k) ∧ (nI k) < nI (nS σ)) := (z_b0).mp h5
    exact absurd hvs h5
set_option maxHeartbeats 4000000 in
set_option maxRecDepth 100000 in
theorem kX5_read_no (l : Launch) (G : zG) (m : Nat → Nat) (σ : Nat → Nat) (V : Nat → Nat → Nat) (ζ : Nat → Nat) (ns : Nat) (x : Nat → Nat) (len : Nat) (B : Nat → Int32) {N : Nat} (k : Nat) (hO : Ok N σ) (hns : ns ≤ 4) (hlen : len ≤ 100) (htx : ∀ i, i < 100 → x i < 65536) (hk : k < nS σ) (hq : flt x len = 200) (hzc : 0 < (tkR x k σ len).2.2.2.1) (hg : ((tkR x k σ len).2.2.2.2) 2 ≠ 0 ∧ 0 < brA ((tkR x k σ len).2.2.2.2) (nE ((tkR x k σ len).2.2.2.2))) (hd : va_D (fun _ => True) (wM G m σ V ζ ns x len B)) : Met l yX5_read wsX5_read (zRm 8 183) (zPc G [.ref (m 0), .int (nI k)] (va_P G.1 vwCl (wM G m σ V ζ ns x len B))) (zQ (zA (wM G m σ V ζ ns x len B)) (some (.int ((-2)))) (va_P G.1 vwCl (wM G m σ V σ ns x len B))) 0 0 (zA (wM G m σ V ζ ns x len B)) := by
  refine zmkWi (w := (wM G m σ V ζ ns x len B)) hd (cc := cX5_read) (maxL := 6) (by decide) rfl (Nat.le_of_ble_eq_true rfl) ?_
  intro pr en st mi ar bl me cd ls Q hx hb hml hown hts hG hP hl hD hS hret
  have hown : st.vm.findClass RX5 = some mi.cls := hown
  have hl : lv_has ls 6 [(0, .ref (m 0)), (1, .int (nI k))] := hl
  have hP : va_P G.1 vwCl (wM G m σ V ζ ns x len B) st.heap := hP
  have hD : va_D (zA (wM G m σ V ζ ns x len B)) (wM G m σ V ζ ns x len B) := hD
  have hinX5 : ∀ w ∈ wsX50, w ∈ wsX5_read := by decide +kernel
  have hf157 := hts (.fieldLink RX5 157 "MapSheetsModel" "typed" "I") (by decide +kernel)
  have hf19 := hts (.fieldLink RX5 19 "MapSheetsModel" "text" "[I") (by decide +kernel)
  have hc := hO.c
  have hs := hO.lS
  have hr := hO.lR
  have hne := hO.lE
  have hvs : 0 ≤ nI k ∧ nI k < nI (nS σ) := z_in hk (by omega)
  have hfl := flt_le x len hlen
  refine lv_aload_n hx hb dX5_read_0 rfl (lv_at hl 0 rfl) ?_
  refine lv_iload_n hx hb dX5_read_1 rfl (lv_at hl 1 rfl) ?_
  refine zrdV (As := [.int (nI k)]) ⟨hx, hb, hml, hown, hts⟩ (kX5_isSheet l G m σ V ζ ns x len B (nI k)) (cwV 1 hts gX5_read_X5_isSheet rfl rfl rfl (by decide +kernel) ⟨Nat.le_of_ble_eq_true rfl, Nat.le_of_ble_eq_true rfl⟩) hG (va_recv (q0 := 0) (ci := 5) hG.1 hP rfl rfl) (hP) rfl rfl hl.1 dX5_read_2 (Nat.le_of_ble_eq_true rfl) ⟨Nat.le_of_ble_eq_true rfl, Nat.le_of_ble_eq_true rfl⟩ ?_
  refine lv_if_ne (tgt := 10) hx hb dX5_read_5 (by decide) (fun h5 => ?_) (fun h5 => ?_)
  · skip
    have h5 : ¬ (¬ (0 ≤ (nI k) ∧ (nI k) < nI (nS σ))) := fun q => h5 ((z_b0).mpr q)
    have h5 : 0 ≤ (nI k) ∧ (nI k) < nI (nS σ) := Decidable.of_not_not h5
    refine lv_aload_n hx hb dX5_read_10 rfl (lv_at hl 0 rfl) ?_
    refine zrdV (As := []) ⟨hx, hb, hml, hown, hts⟩ (kX5_faultAt l G m σ V ζ ns x len B (hlen) (htx)) (cwV 0 hts gX5_read_X5_faultAt rfl rfl rfl (by decide +kernel) ⟨Nat.le_of_ble_eq_true rfl, Nat.le_of_ble_eq_true rfl⟩) hG (va_recv (q0 := 0) (ci := 5) hG.1 hP rfl rfl) (hP) rfl rfl hl.1 dX5_read_11 (Nat.le_of_ble_eq_true rfl) ⟨Nat.le_of_ble_eq_true rfl, Nat.le_of_ble_eq_true rfl⟩ ?_
    refine lv_bipush (v := (-4)) hx hb dX5_read_14 (by decide) ?_
    refine lv_icmp_eq (tgt := 22) hx hb dX5_read_16 (by decide) (fun h16 => ?_) (fun h16 => ?_)
    · skip
      have h16 : flt x len = 200 := (zc_m4 (by omega)).mp h16
      refine lv_aload_n hx hb dX5_read_22 rfl (lv_at hl 0 rfl) ?_
      refine zwrWv (G := G) (wc := (wM G m σ V ζ ns x len B)) (wc' := (wM G m σ V σ ns x len B)) (va_runV (As := []) (rest := []) ⟨hx, hb, hml, hown, hts⟩ (kX5_hold l G m σ V ζ ns x len B (zD_any hD)) (cwV 0 hts gX5_read_X5_hold rfl rfl rfl (by decide +kernel) ⟨Nat.le_of_ble_eq_true rfl, Nat.le_of_ble_eq_true rfl⟩) (zPreV hG (va_recv (q0 := 0) (ci := 5) hG.1 hP rfl rfl) (hP)) rfl rfl hl.1 rfl (lv_room (Nat.le_of_ble_eq_true rfl)) dX5_read_23 ⟨Nat.le_of_ble_eq_true rfl, Nat.le_of_ble_eq_true rfl⟩) hP hD hS (wM_map ..) (fun H locs hP hD hS => ?_)
      have hP : va_P G.1 vwCl (wM G m σ V σ ns x len B) H := hP
      have hD : va_D (zA (wM G m σ V ζ ns x len B)) (wM G m σ V σ ns x len B) := hD
      refine lv_iconst (v := nI 0) hx hb dX5_read_26 (by decide) ?_
      refine lv_istore_n (lv' := [(2, .int (nI 0)), (0, .ref (m 0)), (1, .int (nI k))]) hx hb dX5_read_27 rfl hl (by decide) rfl (fun ls hl => ?_)
      refine lv_iconst (v := nI 0) hx hb dX5_read_28 (by decide) ?_
      refine lv_istore_n (lv' := [(3, .int (nI 0)), (2, .int (nI 0)), (0, .ref (m 0)), (1, .int (nI k))]) hx hb dX5_read_29 rfl hl (by decide) rfl (fun ls hl => ?_)
      have loop30 : ∀ (n : Nat) (i : Nat) (c : Nat) (τ : Nat → Nat) (hs0 : stt x i = 0) (hz : ∀ j, j < i → stt x (j + 1) ≠ 5) (hcc : c = (tkR x k σ i).2.2.2.1) (hτ : τ = (tkR x k σ i).2.2.2.2) (hOτ : Ok N τ) (hi : i ≤ len) (hci : c ≤ i) (hn : len < i + n) (ls : Array Slot) (hl : lv_has ls 6 [(0, .ref (m 0)), (1, .int (nI k)), (2, .int (nI c)), (3, .int (nI i))]) (H : Heap) (locs : List Loc) (hP : va_P G.1 vwCl (wM G m τ V σ ns x len B) H) (hD : va_D (zA (wM G m σ V ζ ns x len B)) (wM G m τ V σ ns x len B)) (hS : va_S (zA (wM G m σ V ζ ns x len B)) st.heap H locs), W pr l en (zRm 8 183) st mi ar bl me cd H locs 0 0 Q (F0 mi 30 ls []) := by
        intro n
        induction n with
        | zero => intro i c τ hs0 hz hcc hτ hOτ hi hci hn ls hl H locs hP hD hS; exfalso; omega
        | succ n ih30 =>
          intro i c τ hs0 hz hcc hτ hOτ hi hci hn ls hl H locs hP hD hS
          refine lv_iload_n hx hb dX5_read_30 rfl (lv_at hl 3 rfl) ?_
          refine lv_aload_n hx hb dX5_read_31 rfl (lv_at hl 0 rfl) ?_
          refine va_get (D := G.1) (ci := 5) (v := .int (nI len)) (C := RX5) (T := TX5) (N := 7) hx hb hts hinX5 hown hG.1 hP 0 rfl rfl 5 (by decide) hf157 (fun _ h9 => h9) rfl dX5_read_32 ?_
          refine lv_icmp_ge (tgt := 111) hx hb dX5_read_35 (by decide) (fun h35 => ?_) (fun h35 => ?_)
          · skip
            have h35 : len ≤ i := (nI_leI (by omega) (by omega)).mp h35
            obtain rfl : len = i := (by omega)
            refine lv_aload_n hx hb dX5_read_111 rfl (lv_at hl 0 rfl) ?_
            refine lv_iload_n hx hb dX5_read_112 rfl (lv_at hl 1 rfl) ?_
            refine lv_iload_n hx hb dX5_read_113 rfl (lv_at hl 2 rfl) ?_
            refine lv_if_le (tgt := 121) hx hb dX5_read_114 (by decide) (fun h114 => ?_) (fun h114 => ?_)
            · skip
              have h114 : c = 0 := (z_le0 (by omega)).mp h114
              exfalso; omega
            · skip
              have h114 : ¬ (c = 0) := fun q => h114 ((z_le0 (by omega)).mpr q)
              have h114 : 0 < c := Nat.pos_of_ne_zero h114
              refine lv_iconst (v := nI 1) hx hb dX5_read_117 (by decide) ?_
              refine lv_goto (tgt := 122) hx hb dX5_read_118 (by decide) ?_
              refine lv_iload_n hx hb dX5_read_122 rfl (lv_at hl 2 rfl) ?_
              refine zwrW (G := G) (wc := (wM G m τ V σ ns x len B)) (wc' := (wM G m σ V σ ns x len B)) (va_runV (As := [.int (nI k), .int (nI 1), .int (nI c)]) (rest := []) ⟨hx, hb, hml, hown, hts⟩ (kX5_keeps_no1 l G m τ V σ ns x len B k c (hOτ) (by rw [hτ]; exact hg) (zD_any hD)) (cwV 3 hts gX5_read_X5_keeps rfl rfl rfl (by decide +kernel) ⟨Nat.le_of_ble_eq_true rfl, Nat.le_of_ble_eq_true rfl⟩) (zPreV hG (va_recv (q0 := 0) (ci := 5) hG.1 hP rfl rfl) (hP)) rfl rfl hl.1 rfl (lv_room (Nat.le_of_ble_eq_true rfl)) dX5_read_123 ⟨Nat.le_of_ble_eq_true rfl, Nat.le_of_ble_eq_true rfl⟩) hP hD hS (wM_map ..) (fun H locs hP hD hS => ?_)
              have hP : va_P G.1 vwCl (wM G m σ V σ ns x len B) H := hP
              have hD : va_D (zA (wM G m σ V ζ ns x len B)) (wM G m σ V σ ns x len B) := hD
              exact hret _ _ _ _ _ dX5_read_126 hS (hP) (rfl)
          · skip
            have h35 : ¬ (len ≤ i) := fun q => h35 ((nI_leI (by omega) (by omega)).mpr q)
            refine lv_aload_n hx hb dX5_read_38 rfl (lv_at hl 0 rfl) ?_
            refine lv_iload_n hx hb dX5_read_39 rfl (lv_at hl 3 rfl) ?_
            refine zrdV (As := [.int (nI i)]) ⟨hx, hb, hml, hown, hts⟩ (kX5_itemAt l G m τ V σ ns x len B i (hlen) (htx) (by omega)) (cwV 1 hts gX5_read_X5_itemAt rfl rfl rfl (by decide +kernel) ⟨Nat.le_of_ble_eq_true rfl, Nat.le_of_ble_eq_true rfl⟩) hG (va_recv (q0 := 0) (ci := 5) hG.1 hP rfl rfl) (hP) rfl rfl hl.1 dX5_read_40 (Nat.le_of_ble_eq_true rfl) ⟨Nat.le_of_ble_eq_true rfl, Nat.le_of_ble_eq_true rfl⟩ ?_
            rcases itm_spec hs0 (show i < len by omega) hz with q | q | q
            · skip
              obtain ⟨e1, e2, e3, e4, e5, e6⟩ := q
              rw [show itR (itm x len i) = nI 4 by rw [e1]; rfl]
              have hz4 : ∀ j, j < i + 4 → stt x (j + 1) ≠ 5 := fun j hj => by rcases (show j < i ∨ j = i ∨ j = i + 1 ∨ j = i + 2 ∨ j = i + 3 by omega) with z | z | z | z | z; exact hz j z; (rw [z]; exact ne5 e3 (by decide)); (rw [z]; exact ne5 e4 (by decide)); (rw [z]; exact ne5 e5 (by decide)); (rw [z]; exact ne5 e6 (by decide))
              have hd1 : 48 ≤ x (i + 1) ∧ x (i + 1) ≤ 57 := by have y := st1 e3; by_cases z : 48 ≤ x (i + 1) ∧ x (i + 1) ≤ 57; exact z; (rw [if_neg z] at y; exact absurd e4 (by rw [show stt x (i + 2) = 5 from y]; decide))
              have hsd4 : sdN (x i) ≠ 4 := fun z => by have y := st0 hs0; rw [if_pos z] at y; rw [y] at e3; exact absurd e3 (by decide)
              have hsl := sdN_le (x i)
              have hxi1 := htx (i + 1) (by omega)
              have hxi0 := htx i (by omega)
              refine lv_istore (lv' := [(4, .int (nI 4)), (0, .ref (m 0)), (1, .int (nI k)), (2, .int (nI c)), (3, .int (nI i))]) hx hb dX5_read_43 hl (by decide) rfl (fun ls hl => ?_)
              refine lv_iload hx hb dX5_read_45 (lv_at hl 0 rfl) ?_
              refine lv_iconst (v := nI 4) hx hb dX5_read_47 (by decide) ?_
              refine lv_icmp_ne (tgt := 56) hx hb dX5_read_48 (by decide) (fun h48 => ?_) (fun h48 => ?_)
              · skip
                have h48 : ¬ (4 = 4) := fun q => h48 ((nI_eq (by omega) (by omega)).mpr q)
                exfalso; omega
              · skip
                have h48 : 4 = 4 := (nI_eq (by omega) (by omega)).mp h48
                refine lv_bipush (v := nI 10) hx hb dX5_read_51 (by decide) ?_
                refine lv_goto (tgt := 67) hx hb dX5_read_53 (by decide) ?_
                refine lv_istore (lv' := [(5, .int (nI 10)), (4, .int (nI 4)), (0, .ref (m 0)), (1, .int (nI k)), (2, .int (nI c)), (3, .int (nI i))]) hx hb dX5_read_67 hl (by decide) rfl (fun ls hl => ?_)
                refine lv_aload_n hx hb dX5_read_69 rfl (lv_at hl 2 rfl) ?_
                refine lv_iload_n hx hb dX5_read_70 rfl (lv_at hl 3 rfl) ?_
                refine lv_bipush (v := nI 10) hx hb dX5_read_71 (by decide) ?_
                refine lv_aload_n hx hb dX5_read_73 rfl (lv_at hl 2 rfl) ?_
                refine va_get (D := G.1) (ci := 5) (v := .ref (m 4)) (C := RX5) (T := TX5) (N := 7) hx hb hts hinX5 hown hG.1 hP 0 rfl rfl 4 (by decide) hf19 (fun _ h9 => h9) rfl dX5_read_74 ?_
                refine lv_iload_n hx hb dX5_read_77 rfl (lv_at hl 5 rfl) ?_
                refine va_iald hx hb hG.1 hP 4 0 rfl rfl (vp_in_nI (n := i) (N := 100) (by omega) (by omega)) dX5_read_78 ?_
                refine lv_topi (nm_r (e' := nI (x i)) (by rw [nI_clamp (by omega)]) ?_)
                refine zrdS (As := [.int (nI (x i))]) ⟨hx, hb, hml, hown, hts⟩ (kX5_sideNamed l G  (x i) (by omega)) (va_cwS 1 hts gX5_read_X5_sideNamed rfl rfl rfl (by decide +kernel) ⟨Nat.le_of_ble_eq_true rfl, Nat.le_of_ble_eq_true rfl⟩) hG (trivial) rfl rfl hl.1 dX5_read_79 (Nat.le_of_ble_eq_true rfl) ⟨Nat.le_of_ble_eq_true rfl, Nat.le_of_ble_eq_true rfl⟩ ?_
                have hf79_0 := sdN_le ((x i))
                refine lv_topi (nm_r (e' := nI (sdN (x i))) (zc_n hsd4) ?_)
                refine lv_imul hx hb dX5_read_82 ?_
                refine lv_topi (nm_r (e' := nI (10 * (sdN (x i)))) (pk_mul _ _) ?_)
                refine lv_aload_n hx hb dX5_read_83 rfl (lv_at hl 2 rfl) ?_
                refine va_get (D := G.1) (ci := 5) (v := .ref (m 4)) (C := RX5) (T := TX5) (N := 7) hx hb hts hinX5 hown hG.1 hP 0 rfl rfl 4 (by decide) hf19 (fun _ h9 => h9) rfl dX5_read_84 ?_
                refine lv_iload_n hx hb dX5_read_87 rfl (lv_at hl 5 rfl) ?_
                refine lv_iconst (v := nI 1) hx hb dX5_read_88 (by decide) ?_
                refine lv_iadd hx hb dX5_read_89 ?_
                refine lv_topi (nm_r (e' := nI (i + 1)) (nI_add _ _) ?_)
                refine va_iald hx hb hG.1 hP 4 0 rfl rfl (vp_in_nI (n := i + 1) (N := 100) (by omega) (by omega)) dX5_read_90 ?_
                refine lv_topi (nm_r (e' := nI (x (i + 1))) (by rw [nI_clamp (by omega)]) ?_)
                refine lv_iadd hx hb dX5_read_91 ?_
                refine lv_topi (nm_r (e' := nI ((10 * (sdN (x i))) + (x (i + 1)))) (nI_add _ _) ?_)
                refine lv_bipush (v := nI 48) hx hb dX5_read_92 (by decide) ?_
                refine lv_isub hx hb dX5_read_94 ?_
                refine lv_topi (nm_r (e' := nI (((10 * (sdN (x i))) + (x (i + 1))) - 48)) (pk_sub (by omega)) ?_)
                refine lv_topi (nm_r (e' := nI (10 * sdN (x i) + (x (i + 1) - 48))) (congrArg nI (by omega)) ?_)
                refine lv_iload hx hb dX5_read_95 (lv_at hl 0 rfl) ?_
                refine zwrWv (G := G) (wc := (wM G m τ V σ ns x len B)) (wc' := (wM G m (su τ (64 + 53 * k + (10 * sdN (x i) + (x (i + 1) - 48))) 10) V σ ns x len B)) (va_runV (As := [.int (nI k), .int (nI (10 * sdN (x i) + (x (i + 1) - 48))), .int (nI 10)]) (rest := []) ⟨hx, hb, hml, hown, hts⟩ (kX5_puts l G m τ V σ ns x len B k (10 * sdN (x i) + (x (i + 1) - 48)) 10 (by omega) (by omega) (by omega) (zD_any hD)) (cwV 3 hts gX5_read_X5_puts rfl rfl rfl (by decide +kernel) ⟨Nat.le_of_ble_eq_true rfl, Nat.le_of_ble_eq_true rfl⟩) (zPreV hG (va_recv (q0 := 0) (ci := 5) hG.1 hP rfl rfl) (hP)) rfl rfl hl.1 rfl (lv_room (Nat.le_of_ble_eq_true rfl)) dX5_read_97 ⟨Nat.le_of_ble_eq_true rfl, Nat.le_of_ble_eq_true rfl⟩) hP hD hS (wM_map ..) (fun H locs hP hD hS => ?_)
                have hP : va_P G.1 vwCl (wM G m (su τ (64 + 53 * k + (10 * sdN (x i) + (x (i + 1) - 48))) 10) V σ ns x len B) H := hP
                have hD : va_D (zA (wM G m σ V ζ ns x len B)) (wM G m (su τ (64 + 53 * k + (10 * sdN (x i) + (x (i + 1) - 48))) 10) V σ ns x len B) := hD
                refine lv_iinc (v := nI (c + 1)) (lv' := [(2, .int (nI (c + 1))), (5, .int (nI 10)), (4, .int (nI 4)), (0, .ref (m 0)), (1, .int (nI k)), (3, .int (nI i))]) hx hb dX5_read_100 hl (k := 4) rfl (zinc1 _) (by decide) rfl (fun ls hl => ?_)
                refine lv_iload_n hx hb dX5_read_103 rfl (lv_at hl 5 rfl) ?_
                refine lv_iload hx hb dX5_read_104 (lv_at hl 2 rfl) ?_
                refine lv_iadd hx hb dX5_read_106 ?_
                refine lv_topi (nm_r (e' := nI (i + 4)) (nI_add _ _) ?_)
                refine lv_istore_n (lv' := [(3, .int (nI (i + 4))), (2, .int (nI (c + 1))), (5, .int (nI 10)), (4, .int (nI 4)), (0, .ref (m 0)), (1, .int (nI k))]) hx hb dX5_read_107 rfl hl (by decide) rfl (fun ls hl => ?_)
                refine lv_goto (tgt := 30) hx hb dX5_read_108 (by decide) ?_
                exact ih30 (i + 4) (c + 1) (su τ (64 + 53 * k + (10 * sdN (x i) + (x (i + 1) - 48))) 10) (e6) (hz4) (by rw [(tk_4 (k := k) (σ := σ) hs0 e3 e4 e5).1, ← hcc]) (by rw [(tk_4 (k := k) (σ := σ) hs0 e3 e4 e5).2, ← hτ]) (hOτ.su_sg (by omega) (by omega)) (by omega) (by omega) (by omega) _ (lv_sub hl [4, 5, 1, 0] rfl) _ _ (hP) (hD) hS
            · skip
              obtain ⟨e1, e2, e3, e4, e5, e6, e7⟩ := q
              rw [show itR (itm x len i) = nI 5 by rw [e1]; rfl]
              have hz5 : ∀ j, j < i + 5 → stt x (j + 1) ≠ 5 := fun j hj => by rcases (show j < i ∨ j = i ∨ j = i + 1 ∨ j = i + 2 ∨ j = i + 3 ∨ j = i + 4 by omega) with z | z | z | z | z | z; exact hz j z; (rw [z]; exact ne5 e3 (by decide)); (rw [z]; exact ne5 e4 (by decide)); (rw [z]; exact ne5 e5 (by decide)); (rw [z]; exact ne5 e6 (by decide)); (rw [z]; exact ne5 e7 (by decide))
              have hd1 : 48 ≤ x (i + 1) ∧ x (i + 1) ≤ 57 := by have y := st1 e3; by_cases z : 48 ≤ x (i + 1) ∧ x (i + 1) ≤ 57; exact z; (rw [if_neg z] at y; exact absurd e4 (by rw [show stt x (i + 2) = 5 from y]; decide))
              have hsd4 : sdN (x i) ≠ 4 := fun z => by have y := st0 hs0; rw [if_pos z] at y; rw [y] at e3; exact absurd e3 (by decide)
              have hd3 : 48 ≤ x (i + 3) ∧ x (i + 3) ≤ 57 := by have y := st3 e5; by_cases z : 48 ≤ x (i + 3) ∧ x (i + 3) ≤ 57; exact z; (rw [if_neg z] at y; exact absurd e6 (by rw [show stt x (i + 4) = 5 from y]; decide))
              have hsl := sdN_le (x i)
              have hxi1 := htx (i + 1) (by omega)
              have hxi0 := htx i (by omega)
              have hxi3 := htx (i + 3) (by omega)
              refine lv_istore (lv' := [(4, .int (nI 5)), (0, .ref (m 0)), (1, .int (nI k)), (2, .int (nI c)), (3, .int (nI i))]) hx hb dX5_read_43 hl (by decide) rfl (fun ls hl => ?_)
              refine lv_iload hx hb dX5_read_45 (lv_at hl 0 rfl) ?_
              refine lv_iconst (v := nI 4) hx hb dX5_read_47 (by decide) ?_
              refine lv_icmp_ne (tgt := 56) hx hb dX5_read_48 (by decide) (fun h48 => ?_) (fun h48 => ?_)
              · skip
                have h48 : ¬ (5 = 4) := fun q => h48 ((nI_eq (by omega) (by omega)).mpr q)
                refine lv_aload_n hx hb dX5_read_56 rfl (lv_at hl 1 rfl) ?_
                refine va_get (D := G.1) (ci := 5) (v := .ref (m 4)) (C := RX5) (T := TX5) (N := 7) hx hb hts hinX5 hown hG.1 hP 0 rfl rfl 4 (by decide) hf19 (fun _ h9 => h9) rfl dX5_read_57 ?_
                refine lv_iload_n hx hb dX5_read_60 rfl (lv_at hl 4 rfl) ?_
                refine lv_iconst (v := nI 3) hx hb dX5_read_61 (by decide) ?_
                refine lv_iadd hx hb dX5_read_62 ?_
                refine lv_topi (nm_r (e' := nI (i + 3)) (nI_add _ _) ?_)
                refine va_iald hx hb hG.1 hP 4 0 rfl rfl (vp_in_nI (n := i + 3) (N := 100) (by omega) (by omega)) dX5_read_63 ?_
                refine lv_topi (nm_r (e' := nI (x (i + 3))) (by rw [nI_clamp (by omega)]) ?_)
                refine lv_bipush (v := nI 48) hx hb dX5_read_64 (by decide) ?_
                refine lv_isub hx hb dX5_read_66 ?_
                refine lv_topi (nm_r (e' := nI ((x (i + 3)) - 48)) (pk_sub (by omega)) ?_)
                refine lv_istore (lv' := [(5, .int (nI ((x (i + 3)) - 48))), (4, .int (nI 5)), (0, .ref (m 0)), (1, .int (nI k)), (2, .int (nI c)), (3, .int (nI i))]) hx hb dX5_read_67 hl (by decide) rfl (fun ls hl => ?_)
                refine lv_aload_n hx hb dX5_read_69 rfl (lv_at hl 2 rfl) ?_
                refine lv_iload_n hx hb dX5_read_70 rfl (lv_at hl 3 rfl) ?_
                refine lv_bipush (v := nI 10) hx hb dX5_read_71 (by decide) ?_
                refine lv_aload_n hx hb dX5_read_73 rfl (lv_at hl 2 rfl) ?_
                refine va_get (D := G.1) (ci := 5) (v := .ref (m 4)) (C := RX5) (T := TX5) (N := 7) hx hb hts hinX5 hown hG.1 hP 0 rfl rfl 4 (by decide) hf19 (fun _ h9 => h9) rfl dX5_read_74 ?_
                refine lv_iload_n hx hb dX5_read_77 rfl (lv_at hl 5 rfl) ?_
                refine va_iald hx hb hG.1 hP 4 0 rfl rfl (vp_in_nI (n := i) (N := 100) (by omega) (by omega)) dX5_read_78 ?_
                refine lv_topi (nm_r (e' := nI (x i)) (by rw [nI_clamp (by omega)]) ?_)
                refine zrdS (As := [.int (nI (x i))]) ⟨hx, hb, hml, hown, hts⟩ (kX5_sideNamed l G  (x i) (by omega)) (va_cwS 1 hts gX5_read_X5_sideNamed rfl rfl rfl (by decide +kernel) ⟨Nat.le_of_ble_eq_true rfl, Nat.le_of_ble_eq_true rfl⟩) hG (trivial) rfl rfl hl.1 dX5_read_79 (Nat.le_of_ble_eq_true rfl) ⟨Nat.le_of_ble_eq_true rfl, Nat.le_of_ble_eq_true rfl⟩ ?_
                have hf79_0 := sdN_le ((x i))
                refine lv_topi (nm_r (e' := nI (sdN (x i))) (zc_n hsd4) ?_)
                refine lv_imul hx hb dX5_read_82 ?_
                refine lv_topi (nm_r (e' := nI (10 * (sdN (x i)))) (pk_mul _ _) ?_)
                refine lv_aload_n hx hb dX5_read_83 rfl (lv_at hl 2 rfl) ?_
                refine va_get (D := G.1) (ci := 5) (v := .ref (m 4)) (C := RX5) (T := TX5) (N := 7) hx hb hts hinX5 hown hG.1 hP 0 rfl rfl 4 (by decide) hf19 (fun _ h9 => h9) rfl dX5_read_84 ?_
                refine lv_iload_n hx hb dX5_read_87 rfl (lv_at hl 5 rfl) ?_
                refine lv_iconst (v := nI 1) hx hb dX5_read_88 (by decide) ?_
                refine lv_iadd hx hb dX5_read_89 ?_
                refine lv_topi (nm_r (e' := nI (i + 1)) (nI_add _ _) ?_)
                refine va_iald hx hb hG.1 hP 4 0 rfl rfl (vp_in_nI (n := i + 1) (N := 100) (by omega) (by omega)) dX5_read_90 ?_
                refine lv_topi (nm_r (e' := nI (x (i + 1))) (by rw [nI_clamp (by omega)]) ?_)
                refine lv_iadd hx hb dX5_read_91 ?_
                refine lv_topi (nm_r (e' := nI ((10 * (sdN (x i))) + (x (i + 1)))) (nI_add _ _) ?_)
                refine lv_bipush (v := nI 48) hx hb dX5_read_92 (by decide) ?_
                refine lv_isub hx hb dX5_read_94 ?_
                refine lv_topi (nm_r (e' := nI (((10 * (sdN (x i))) + (x (i + 1))) - 48)) (pk_sub (by omega)) ?_)
                refine lv_topi (nm_r (e' := nI (10 * sdN (x i) + (x (i + 1) - 48))) (congrArg nI (by omega)) ?_)
                refine lv_iload hx hb dX5_read_95 (lv_at hl 0 rfl) ?_
                refine zwrWv (G := G) (wc := (wM G m τ V σ ns x len B)) (wc' := (wM G m (su τ (64 + 53 * k + (10 * sdN (x i) + (x (i + 1) - 48))) ((x (i + 3)) - 48)) V σ ns x len B)) (va_runV (As := [.int (nI k), .int (nI (10 * sdN (x i) + (x (i + 1) - 48))), .int (nI ((x (i + 3)) - 48))]) (rest := []) ⟨hx, hb, hml, hown, hts⟩ (kX5_puts l G m τ V σ ns x len B k (10 * sdN (x i) + (x (i + 1) - 48)) ((x (i + 3)) - 48) (by omega) (by omega) (by omega) (zD_any hD)) (cwV 3 hts gX5_read_X5_puts rfl rfl rfl (by decide +kernel) ⟨Nat.le_of_ble_eq_true rfl, Nat.le_of_ble_eq_true rfl⟩) (zPreV hG (va_recv (q0 := 0) (ci := 5) hG.1 hP rfl rfl) (hP)) rfl rfl hl.1 rfl (lv_room (Nat.le_of_ble_eq_true rfl)) dX5_read_97 ⟨Nat.le_of_ble_eq_true rfl, Nat.le_of_ble_eq_true rfl⟩) hP hD hS (wM_map ..) (fun H locs hP hD hS => ?_)
                have hP : va_P G.1 vwCl (wM G m (su τ (64 + 53 * k + (10 * sdN (x i) + (x (i + 1) - 48))) ((x (i + 3)) - 48)) V σ ns x len B) H := hP
                have hD : va_D (zA (wM G m σ V ζ ns x len B)) (wM G m (su τ (64 + 53 * k + (10 * sdN (x i) + (x (i + 1) - 48))) ((x (i + 3)) - 48)) V σ ns x len B) := hD
                refine lv_iinc (v := nI (c + 1)) (lv' := [(2, .int (nI (c + 1))), (5, .int (nI ((x (i + 3)) - 48))), (4, .int (nI 5)), (0, .ref (m 0)), (1, .int (nI k)), (3, .int (nI i))]) hx hb dX5_read_100 hl (k := 4) rfl (zinc1 _) (by decide) rfl (fun ls hl => ?_)
                refine lv_iload_n hx hb dX5_read_103 rfl (lv_at hl 5 rfl) ?_
                refine lv_iload hx hb dX5_read_104 (lv_at hl 2 rfl) ?_
                refine lv_iadd hx hb dX5_read_106 ?_
                refine lv_topi (nm_r (e' := nI (i + 5)) (nI_add _ _) ?_)
                refine lv_istore_n (lv' := [(3, .int (nI (i + 5))), (2, .int (nI (c + 1))), (5, .int (nI ((x (i + 3)) - 48))), (4, .int (nI 5)), (0, .ref (m 0)), (1, .int (nI k))]) hx hb dX5_read_107 rfl hl (by decide) rfl (fun ls hl => ?_)
                refine lv_goto (tgt := 30) hx hb dX5_read_108 (by decide) ?_
                exact ih30 (i + 5) (c + 1) (su τ (64 + 53 * k + (10 * sdN (x i) + (x (i + 1) - 48))) ((x (i + 3)) - 48)) (e7) (hz5) (by rw [(tk_5 (k := k) (σ := σ) hs0 e3 e4 e5 e6).1, ← hcc]) (by rw [(tk_5 (k := k) (σ := σ) hs0 e3 e4 e5 e6).2, ← hτ]) (hOτ.su_sg (by omega) (by omega)) (by omega) (by omega) (by omega) _ (lv_sub hl [4, 5, 1, 0] rfl) _ _ (hP) (hD) hS
              · skip
                have h48 : 5 = 4 := (nI_eq (by omega) (by omega)).mp h48
                exfalso; omega
            · exfalso; obtain ⟨e1, e2⟩ := q; omega
      exact loop30 (len + 1) 0 0 σ (rfl) (fun j hj => absurd hj (Nat.not_lt_zero j)) (rfl) (rfl) (hO) (by omega) (by omega) (by omega) _ (lv_sub hl [2, 3, 1, 0] rfl) _ _ (hP) (hD) hS
    · skip
      have h16 : ¬ (flt x len = 200) := fun q => h16 ((zc_m4 (by omega)).mpr q)
      exact absurd hq h16
  · skip
    have h5 : ¬ (0 ≤ (nI k) ∧ (nI k) < nI (nS σ)) := (z_b0).mp h5
    exact absurd hvs h5
