theorem tx_su {x : Nat → Nat} {len c : Nat} (h : ∀ i, i < 100 → x i < 65536) (hc : c < 65536) : ∀ i, i < 100 → su x len c i < 65536 := by
  intro i hi
  unfold su
  split
  · exact hc
  · exact h i hi
/-- the one call whose answer the reference only reads -/
def PrR (l : Launch) (G : zG) (y4 : MethodName) (ws4 : List Cond) (f4 n4 : Nat) (y5 : MethodName) (ws5 : List Cond) (f5 n5 : Nat) (As : List Value) (ad : Nat → Nat → Nat) (m : Nat → Nat) (N : Nat) (σ : Nat → Nat) (T : Nat → Nat → Nat) (o n : Nat) (f : Nat → Int32) (x : Nat → Nat) (len : Nat) (V : Nat → Nat → Nat) (ζ : Nat → Nat) (B : Nat → Int32) : Prop :=
  ∃ (v : Int32) (σ' : Nat → Nat) (T' : Nat → Nat → Nat) (o' n' : Nat) (f' : Nat → Int32) (x' : Nat → Nat) (len' : Nat) (V' : Nat → Nat → Nat), Iv (N + 1) σ' T' o' n' V' x' len' ∧
    Met l y4 ws4 (zRm f4 n4) (zPc G (.ref (ad 0 0) :: As) (va_P G.1 vwCl (wX G ad σ T o n f x len))) (zQ (zA (wX G ad σ T o n f x len)) (some (.int v)) (va_P G.1 vwCl (wX G ad σ' T' o' n' f' x' len'))) 0 0 (zA (wX G ad σ T o n f x len)) ∧
    Met l y5 ws5 (zRm f5 n5) (zPc G (.ref (m 0) :: As) (va_P G.1 vwCl (wM G m σ V ζ n x len B))) (zS (.int v)) 0 0 (fun _ => False) ∧ wM G m σ V ζ n x len B = wM G m σ' V' ζ n' x' len' B
set_option maxHeartbeats 4000000 in
theorem pr_grid (l : Launch) (G : zG) (ad : Nat → Nat → Nat) (m : Nat → Nat) {N : Nat} {σ : Nat → Nat} {T : Nat → Nat → Nat} {o n : Nat} (f : Nat → Int32) {x : Nat → Nat} {len : Nat} {V : Nat → Nat → Nat} (ζ : Nat → Nat) (B : Nat → Int32) (hI : Iv N σ T o n V x len) (hN : N + 1 < 100000) (h4 : va_D (fun _ => True) (wX G ad σ T o n f x len)) (h5 : va_D (fun _ => True) (wM G m σ V ζ n x len B)) (x1 x2 : Int32) : Pr l G yX4_grid wsX4_grid 4 104 yX5_grid wsX5_grid 2 40 [.int x1, .int x2] ad m N σ T o n f x len V ζ B := by
  obtain ⟨hO, hC, ho, hn, hlen, htx, hH⟩ := id hI
  have hS := hO.lS
  have hE := hO.lE
  by_cases hv : ((nI 1 ≤ x1 ∧ x1 ≤ nI 6) ∧ (nI 1 ≤ x2 ∧ x2 ≤ nI 6))
  rotate_left
  · exact ⟨_, _, _, _, _, _, _, _, _, _, _, hI.keep hN, kX4_grid_inv l G ad σ T o n f x len x1 x2 hO ho hn hv h4, kX5_grid_inv l G m σ V ζ n x len B x1 x2 hO hn hv h5⟩
  obtain ⟨c, hc1, hc6, rfl⟩ := z_ofrg (by omega) (by omega) hv.1
  obtain ⟨r, hr1, hr6, rfl⟩ := z_ofrg (by omega) (by omega) hv.2
  have hB := hO.bg ⟨hc1, hc6⟩ ⟨hr1, hr6⟩
  exact ⟨_, _, _, _, _, _, _, _, _, _, _, hI.push hN (hB.up hN) (cln_bgn hB), kX4_grid_ok l G ad σ T o n f x len c r hO ho hn hc1 hc6 hr1 hr6 h4, kX5_grid_ok l G m σ V ζ n x len B c r hO hn hc1 hc6 hr1 hr6 h5⟩
set_option maxHeartbeats 4000000 in
theorem pr_set (l : Launch) (G : zG) (ad : Nat → Nat → Nat) (m : Nat → Nat) {N : Nat} {σ : Nat → Nat} {T : Nat → Nat → Nat} {o n : Nat} (f : Nat → Int32) {x : Nat → Nat} {len : Nat} {V : Nat → Nat → Nat} (ζ : Nat → Nat) (B : Nat → Int32) (hI : Iv N σ T o n V x len) (hN : N + 1 < 100000) (h4 : va_D (fun _ => True) (wX G ad σ T o n f x len)) (h5 : va_D (fun _ => True) (wM G m σ V ζ n x len B)) (x1 x2 : Int32) : Pr l G yX4_set wsX4_set 4 104 yX5_set wsX5_set 1 22 [.int x1, .int x2] ad m N σ T o n f x len V ζ B := by
  obtain ⟨hO, hC, ho, hn, hlen, htx, hH⟩ := id hI
  have hS := hO.lS
  have hE := hO.lE
  by_cases hv : ((nI 0 ≤ x1 ∧ x1 ≤ nI 1) ∧ (nI 0 ≤ x2 ∧ x2 ≤ (if x1 = 0 then nI 1 else nI 1000)))
  rotate_left
  · exact ⟨_, _, _, _, _, _, _, _, _, _, _, hI.keep hN, kX4_set_inv l G ad σ T o n f x len x1 x2 hO ho hn hv h4, kX5_set_inv l G m σ V ζ n x len B x1 x2 hO hn hv h5⟩
  obtain ⟨c, hc, rfl⟩ := z_ofle (m := 1) (by omega) hv.1
  have hv2 := hv.2
  rcases (show c = 0 ∨ c = 1 by omega) with rfl | rfl
  · rw [if_pos nI_0] at hv2
    obtain ⟨v, hv1, rfl⟩ := z_ofle (m := 1) (by omega) hv2
    exact ⟨_, _, _, _, _, _, _, _, _, _, _, hI.push hN ((hO.su_gd hv1).up hN) (cln_su hO hC (by omega) (fun k y hy => by omega) (fun e he => by omega)), kX4_set_guard l G ad σ T o n f x len v hO ho hn hv1 h4, kX5_set_guard l G m σ V ζ n x len B v hO hn hv1 h5⟩
  · rw [if_neg (by decide +kernel)] at hv2
    obtain ⟨v, hv1, rfl⟩ := z_ofle (m := 1000) (by omega) hv2
    exact ⟨_, _, _, _, _, _, _, _, _, _, _, hI.push hN ((hO.su_tl hv1).up hN) (cln_su hO hC (by omega) (fun k y hy => by omega) (fun e he => by omega)), kX4_set_tol l G ad σ T o n f x len v hO ho hn hv1 h4, kX5_set_tol l G m σ V ζ n x len B v hO hn hv1 h5⟩
set_option maxHeartbeats 4000000 in
theorem pr_show (l : Launch) (G : zG) (ad : Nat → Nat → Nat) (m : Nat → Nat) {N : Nat} {σ : Nat → Nat} {T : Nat → Nat → Nat} {o n : Nat} (f : Nat → Int32) {x : Nat → Nat} {len : Nat} {V : Nat → Nat → Nat} (ζ : Nat → Nat) (B : Nat → Int32) (hI : Iv N σ T o n V x len) (hN : N + 1 < 100000) (h4 : va_D (fun _ => True) (wX G ad σ T o n f x len)) (h5 : va_D (fun _ => True) (wM G m σ V ζ n x len B)) (x1 x2 x3 x4 : Int32) : Pr l G yX4_show wsX4_show 6 138 yX5_show wsX5_show 8 183 [.int x1, .int x2, .int x3, .int x4] ad m N σ T o n f x len V ζ B := by
  obtain ⟨hO, hC, ho, hn, hlen, htx, hH⟩ := id hI
  have hS := hO.lS
  have hE := hO.lE
  by_cases hv : (((0 ≤ x1 ∧ x1 < nI (nS σ)) ∧ (0 ≤ x2 ∧ x2 ≤ 3) ∧ (0 ≤ x3 ∧ x3 ≤ 9)) ∧ (nI 0 ≤ x4 ∧ x4 ≤ nI 9))
  rotate_left
  · exact ⟨_, _, _, _, _, _, _, _, _, _, _, hI.keep hN, kX4_show_inv l G ad σ T o n f x len x1 x2 x3 x4 hO ho hn hv h4, kX5_show_inv l G m σ V ζ n x len B x1 x2 x3 x4 hO hn hv h5⟩
  obtain ⟨k, hk, rfl⟩ := z_of (by omega) hv.1.1
  obtain ⟨d, hd4, rfl⟩ := z_of3 hv.1.2.1
  obtain ⟨p, hp, rfl⟩ := z_of9 hv.1.2.2
  obtain ⟨v, hv9, rfl⟩ := z_ofle (m := 9) (by omega) hv.2
  have hv9 : v < 10 := by omega
  have hT : Ok N (su σ (64 + 53 * k + (10 * d + p)) v) := hO.su_sg (by omega) (by omega)
  have hw : Own k σ (su σ (64 + 53 * k + (10 * d + p)) v) := own_su (own_rf k σ) (by omega)
  have Lk := lnk hO hT hN hC hk hw
  by_cases hrf : rfsd (su σ (64 + 53 * k + (10 * d + p)) v) k
  · exact ⟨_, _, _, _, _, _, _, _, _, _, _, hI.hold hN σ, kX4_show_no l G ad σ T o n f x len k d p v hO ho hn hk hd4 hp hv9 hrf h4, kX5_show_no l G m σ V ζ n x len B k d p v hO hn hk hd4 hp hv9 (Lk.1.mp hrf) h5⟩
  · have h := kX5_show_ok l G m σ V ζ n x len B k d p v hO hn hk hd4 hp hv9 (fun q => hrf (Lk.1.mpr q)) h5
    rw [← Lk.2.1] at h
    exact ⟨_, _, _, _, _, _, _, _, _, _, _, hI.push hN Lk.2.2.2 Lk.2.2.1, kX4_show_ok l G ad σ T o n f x len k d p v hO ho hn hk hd4 hp hv9 hrf h4, h⟩
set_option maxHeartbeats 4000000 in
theorem pr_erase (l : Launch) (G : zG) (ad : Nat → Nat → Nat) (m : Nat → Nat) {N : Nat} {σ : Nat → Nat} {T : Nat → Nat → Nat} {o n : Nat} (f : Nat → Int32) {x : Nat → Nat} {len : Nat} {V : Nat → Nat → Nat} (ζ : Nat → Nat) (B : Nat → Int32) (hI : Iv N σ T o n V x len) (hN : N + 1 < 100000) (h4 : va_D (fun _ => True) (wX G ad σ T o n f x len)) (h5 : va_D (fun _ => True) (wM G m σ V ζ n x len B)) (x1 x2 x3 : Int32) : Pr l G yX4_erase wsX4_erase 6 138 yX5_erase wsX5_erase 8 183 [.int x1, .int x2, .int x3] ad m N σ T o n f x len V ζ B := by
  obtain ⟨hO, hC, ho, hn, hlen, htx, hH⟩ := id hI
  have hS := hO.lS
  have hE := hO.lE
  by_cases hv : ((0 ≤ x1 ∧ x1 < nI (nS σ)) ∧ (0 ≤ x2 ∧ x2 ≤ 3) ∧ (0 ≤ x3 ∧ x3 ≤ 9))
  rotate_left
  · exact ⟨_, _, _, _, _, _, _, _, _, _, _, hI.keep hN, kX4_erase_inv l G ad σ T o n f x len x1 x2 x3 hO ho hn hv h4, kX5_erase_inv l G m σ V ζ n x len B x1 x2 x3 hO hn hv h5⟩
  obtain ⟨k, hk, rfl⟩ := z_of (by omega) hv.1
  obtain ⟨d, hd4, rfl⟩ := z_of3 hv.2.1
  obtain ⟨p, hp, rfl⟩ := z_of9 hv.2.2
  by_cases h10s : sgn σ k d p = 10
  · exact ⟨_, _, _, _, _, _, _, _, _, _, _, hI.keep hN, kX4_erase_none l G ad σ T o n f x len k d p hO ho hn hk hd4 hp h10s h4, kX5_erase_none l G m σ V ζ n x len B k d p hO hn hk hd4 hp h10s h5⟩
  have hT : Ok N (su σ (64 + 53 * k + (10 * d + p)) 10) := hO.su_sg (by omega) (by omega)
  have hw : Own k σ (su σ (64 + 53 * k + (10 * d + p)) 10) := own_su (own_rf k σ) (by omega)
  have Lk := lnk hO hT hN hC hk hw
  by_cases hrf : rfsd (su σ (64 + 53 * k + (10 * d + p)) 10) k
  · exact ⟨_, _, _, _, _, _, _, _, _, _, _, hI.hold hN σ, kX4_erase_no l G ad σ T o n f x len k d p hO ho hn hk hd4 hp h10s hrf h4, kX5_erase_no l G m σ V ζ n x len B k d p hO hn hk hd4 hp h10s (Lk.1.mp hrf) h5⟩
  · have h := kX5_erase_ok l G m σ V ζ n x len B k d p hO hn hk hd4 hp h10s (fun q => hrf (Lk.1.mpr q)) h5
    rw [← Lk.2.1] at h
    exact ⟨_, _, _, _, _, _, _, _, _, _, _, hI.push hN Lk.2.2.2 Lk.2.2.1, kX4_erase_ok l G ad σ T o n f x len k d p hO ho hn hk hd4 hp h10s hrf h4, h⟩
set_option maxHeartbeats 4000000 in
theorem pr_mean (l : Launch) (G : zG) (ad : Nat → Nat → Nat) (m : Nat → Nat) {N : Nat} {σ : Nat → Nat} {T : Nat → Nat → Nat} {o n : Nat} (f : Nat → Int32) {x : Nat → Nat} {len : Nat} {V : Nat → Nat → Nat} (ζ : Nat → Nat) (B : Nat → Int32) (hI : Iv N σ T o n V x len) (hN : N + 1 < 100000) (h4 : va_D (fun _ => True) (wX G ad σ T o n f x len)) (h5 : va_D (fun _ => True) (wM G m σ V ζ n x len B)) (x1 x2 x3 : Int32) : Pr l G yX4_mean wsX4_mean 6 138 yX5_mean wsX5_mean 8 183 [.int x1, .int x2, .int x3] ad m N σ T o n f x len V ζ B := by
  obtain ⟨hO, hC, ho, hn, hlen, htx, hH⟩ := id hI
  have hS := hO.lS
  have hE := hO.lE
  by_cases hv : ((0 ≤ x1 ∧ x1 < nI (nS σ)) ∧ (nI 0 ≤ x2 ∧ x2 ≤ nI 9) ∧ (nI 0 ≤ x3 ∧ x3 ≤ nI 9))
  rotate_left
  · exact ⟨_, _, _, _, _, _, _, _, _, _, _, hI.keep hN, kX4_mean_inv l G ad σ T o n f x len x1 x2 x3 hO ho hn hv h4, kX5_mean_inv l G m σ V ζ n x len B x1 x2 x3 hO hn hv h5⟩
  obtain ⟨k, hk, rfl⟩ := z_of (by omega) hv.1
  obtain ⟨g, hg, rfl⟩ := z_ofle (m := 9) (by omega) hv.2.1
  have hg : g < 10 := by omega
  have hg1 : g < 10 := hg
  obtain ⟨v, hv9, rfl⟩ := z_ofle (m := 9) (by omega) hv.2.2
  have hv9 : v < 10 := by omega
  have hT : Ok N (su σ (104 + 53 * k + g) v) := hO.su_mn hg (by omega)
  have hw : Own k σ (su σ (104 + 53 * k + g) v) := own_su (own_rf k σ) (by omega)
  have Lk := lnk hO hT hN hC hk hw
  by_cases hrf : rfsd (su σ (104 + 53 * k + g) v) k
  · exact ⟨_, _, _, _, _, _, _, _, _, _, _, hI.hold hN σ, kX4_mean_no l G ad σ T o n f x len k g v hO ho hn hk hg hv9 hrf h4, kX5_mean_no l G m σ V ζ n x len B k g v hO hn hk hg1 hv9 (Lk.1.mp hrf) h5⟩
  · have h := kX5_mean_ok l G m σ V ζ n x len B k g v hO hn hk hg1 hv9 (fun q => hrf (Lk.1.mpr q)) h5
    rw [← Lk.2.1] at h
    exact ⟨_, _, _, _, _, _, _, _, _, _, _, hI.push hN Lk.2.2.2 Lk.2.2.1, kX4_mean_ok l G ad σ T o n f x len k g v hO ho hn hk hg hv9 hrf h4, h⟩
set_option maxHeartbeats 4000000 in
theorem pr_sign (l : Launch) (G : zG) (ad : Nat → Nat → Nat) (m : Nat → Nat) {N : Nat} {σ : Nat → Nat} {T : Nat → Nat → Nat} {o n : Nat} (f : Nat → Int32) {x : Nat → Nat} {len : Nat} {V : Nat → Nat → Nat} (ζ : Nat → Nat) (B : Nat → Int32) (hI : Iv N σ T o n V x len) (hN : N + 1 < 100000) (h4 : va_D (fun _ => True) (wX G ad σ T o n f x len)) (h5 : va_D (fun _ => True) (wM G m σ V ζ n x len B)) (x1 x2 x3 : Int32) : Pr l G yX4_sign wsX4_sign 3 64 yX5_sign wsX5_sign 3 64 [.int x1, .int x2, .int x3] ad m N σ T o n f x len V ζ B := by
  obtain ⟨hO, hC, ho, hn, hlen, htx, hH⟩ := id hI
  have hS := hO.lS
  have hE := hO.lE
  by_cases hv : ((0 ≤ x1 ∧ x1 < nI (nS σ)) ∧ (0 ≤ x2 ∧ x2 ≤ 3) ∧ (0 ≤ x3 ∧ x3 ≤ 9))
  rotate_left
  · exact ⟨_, _, _, _, _, _, _, _, _, _, _, hI.keep hN, kX4_sign_inv l G ad σ T o n f x len x1 x2 x3 hO ho hn hv h4, kX5_sign_inv l G m σ V ζ n x len B x1 x2 x3 hO hn hv h5⟩
  obtain ⟨k, hk, rfl⟩ := z_of (by omega) hv.1
  obtain ⟨d, hd4, rfl⟩ := z_of3 hv.2.1
  obtain ⟨p, hp, rfl⟩ := z_of9 hv.2.2
  exact ⟨_, _, _, _, _, _, _, _, _, _, _, hI.keep hN, kX4_sign_ok l G ad σ T o n f x len k d p hO ho hn hk hd4 hp h4, kX5_sign_ok l G m σ V ζ n x len B k d p hO hn hk hd4 hp h5⟩
set_option maxHeartbeats 4000000 in
theorem pr_meaning (l : Launch) (G : zG) (ad : Nat → Nat → Nat) (m : Nat → Nat) {N : Nat} {σ : Nat → Nat} {T : Nat → Nat → Nat} {o n : Nat} (f : Nat → Int32) {x : Nat → Nat} {len : Nat} {V : Nat → Nat → Nat} (ζ : Nat → Nat) (B : Nat → Int32) (hI : Iv N σ T o n V x len) (hN : N + 1 < 100000) (h4 : va_D (fun _ => True) (wX G ad σ T o n f x len)) (h5 : va_D (fun _ => True) (wM G m σ V ζ n x len B)) (x1 x2 : Int32) : Pr l G yX4_meaning wsX4_meaning 2 44 yX5_meaning wsX5_meaning 2 41 [.int x1, .int x2] ad m N σ T o n f x len V ζ B := by
  obtain ⟨hO, hC, ho, hn, hlen, htx, hH⟩ := id hI
  have hS := hO.lS
  have hE := hO.lE
  by_cases hv : ((0 ≤ x1 ∧ x1 < nI (nS σ)) ∧ (nI 0 ≤ x2 ∧ x2 ≤ nI 9))
  rotate_left
  · exact ⟨_, _, _, _, _, _, _, _, _, _, _, hI.keep hN, kX4_meaning_inv l G ad σ T o n f x len x1 x2 hO ho hn hv h4, kX5_meaning_inv l G m σ V ζ n x len B x1 x2 hO hn hv h5⟩
  obtain ⟨k, hk, rfl⟩ := z_of (by omega) hv.1
  obtain ⟨g, hg, rfl⟩ := z_ofle (m := 9) (by omega) hv.2
  have hg : g < 10 := by omega
  have hg1 : g < 10 := hg
  exact ⟨_, _, _, _, _, _, _, _, _, _, _, hI.keep hN, kX4_meaning_ok l G ad σ T o n f x len k g hO ho hn hk hg h4, kX5_meaning_ok l G m σ V ζ n x len B k g hO hn hk hg1 h5⟩
set_option maxHeartbeats 4000000 in
theorem pr_sheet (l : Launch) (G : zG) (ad : Nat → Nat → Nat) (m : Nat → Nat) {N : Nat} {σ : Nat → Nat} {T : Nat → Nat → Nat} {o n : Nat} (f : Nat → Int32) {x : Nat → Nat} {len : Nat} {V : Nat → Nat → Nat} (ζ : Nat → Nat) (B : Nat → Int32) (hI : Iv N σ T o n V x len) (hN : N + 1 < 100000) (h4 : va_D (fun _ => True) (wX G ad σ T o n f x len)) (h5 : va_D (fun _ => True) (wM G m σ V ζ n x len B)) (x1 x2 : Int32) : Pr l G yX4_sheet wsX4_sheet 4 85 yX5_sheet wsX5_sheet 5 108 [.int x1, .int x2] ad m N σ T o n f x len V ζ B := by
  obtain ⟨hO, hC, ho, hn, hlen, htx, hH⟩ := id hI
  have hS := hO.lS
  have hE := hO.lE
  by_cases hv : (0 ≤ x1 ∧ x1 < nI (nS σ))
  rotate_left
  · exact ⟨_, _, _, _, _, _, _, _, _, _, _, hI.keep hN, kX4_sheet_inv l G ad σ T o n f x len x1 x2 hO ho hn hv h4, kX5_sheet_inv l G m σ V ζ n x len B x1 x2 hO hn hv h5⟩
  obtain ⟨k, hk, rfl⟩ := z_of (by omega) hv
  by_cases hv : (nI 0 ≤ x2 ∧ x2 ≤ nI 9)
  rotate_left
  · exact ⟨_, _, _, _, _, _, _, _, _, _, _, hI.keep hN, kX4_sheet_what l G ad σ T o n f x len k x2 hO ho hn hk hv h4, kX5_sheet_what l G m σ V ζ n x len B k x2 hO hn hk hv h5⟩
  obtain ⟨w, hw, rfl⟩ := z_ofle (m := 9) (by omega) hv
  rcases (show w = 0 ∨ w = 1 ∨ w = 2 ∨ w = 3 ∨ w = 4 ∨ w = 5 ∨ w = 6 ∨ w = 7 ∨ w = 8 ∨ w = 9 by omega) with rfl | rfl | rfl | rfl | rfl | rfl | rfl | rfl | rfl | rfl
  · exact ⟨_, _, _, _, _, _, _, _, _, _, _, hI.keep hN, kX4_sheet_0 l G ad σ T o n f x len k hO ho hn hk h4, kX5_sheet_0 l G m σ V ζ n x len B k hO hn hk h5⟩
  · exact ⟨_, _, _, _, _, _, _, _, _, _, _, hI.keep hN, kX4_sheet_1 l G ad σ T o n f x len k hO ho hn hk h4, kX5_sheet_1 l G m σ V ζ n x len B k hO hn hk h5⟩
  · exact ⟨_, _, _, _, _, _, _, _, _, _, _, hI.keep hN, kX4_sheet_2 l G ad σ T o n f x len k hO ho hn hk h4, kX5_sheet_2 l G m σ V ζ n x len B k hO hn hk h5⟩
  · exact ⟨_, _, _, _, _, _, _, _, _, _, _, hI.keep hN, kX4_sheet_3 l G ad σ T o n f x len k hO ho hn hk h4, kX5_sheet_3 l G m σ V ζ n x len B k hO hn hk h5⟩
  · exact ⟨_, _, _, _, _, _, _, _, _, _, _, hI.keep hN, kX4_sheet_4 l G ad σ T o n f x len k hO ho hn hk h4, kX5_sheet_4 l G m σ V ζ n x len B k hO hn hk h5⟩
  · exact ⟨_, _, _, _, _, _, _, _, _, _, _, hI.keep hN, kX4_sheet_5 l G ad σ T o n f x len k hO ho hn hk h4, kX5_sheet_5 l G m σ V ζ n x len B k hO hn hk h5⟩
  · exact ⟨_, _, _, _, _, _, _, _, _, _, _, hI.keep hN, kX4_sheet_6 l G ad σ T o n f x len k hO ho hn hk h4, kX5_sheet_6 l G m σ V ζ n x len B k hO hn hk h5⟩
  · exact ⟨_, _, _, _, _, _, _, _, _, _, _, hI.keep hN, kX4_sheet_7 l G ad σ T o n f x len k hO ho hn hk h4, kX5_sheet_7 l G m σ V ζ n x len B k hO hn hk h5⟩
  · exact ⟨_, _, _, _, _, _, _, _, _, _, _, hI.keep hN, kX4_sheet_8 l G ad σ T o n f x len k hO ho hn hk h4, kX5_sheet_8 l G m σ V ζ n x len B k hO hn hk h5⟩
  · exact ⟨_, _, _, _, _, _, _, _, _, _, _, hI.keep hN, kX4_sheet_9 l G ad σ T o n f x len k hO ho hn hk h4, kX5_sheet_9 l G m σ V ζ n x len B k hO hn hk h5⟩
set_option maxHeartbeats 4000000 in
theorem pr_count (l : Launch) (G : zG) (ad : Nat → Nat → Nat) (m : Nat → Nat) {N : Nat} {σ : Nat → Nat} {T : Nat → Nat → Nat} {o n : Nat} (f : Nat → Int32) {x : Nat → Nat} {len : Nat} {V : Nat → Nat → Nat} (ζ : Nat → Nat) (B : Nat → Int32) (hI : Iv N σ T o n V x len) (hN : N + 1 < 100000) (h4 : va_D (fun _ => True) (wX G ad σ T o n f x len)) (h5 : va_D (fun _ => True) (wM G m σ V ζ n x len B)) (x1 : Int32) : Pr l G yX4_count wsX4_count 6 134 yX5_count wsX5_count 7 163 [.int x1] ad m N σ T o n f x len V ζ B := by
  obtain ⟨hO, hC, ho, hn, hlen, htx, hH⟩ := id hI
  have hS := hO.lS
  have hE := hO.lE
  by_cases hv : (nI 0 ≤ x1 ∧ x1 ≤ nI 14)
  rotate_left
  · exact ⟨_, _, _, _, _, _, _, _, _, _, _, hI.keep hN, kX4_count_inv l G ad σ T o n f x len x1 hO ho hn hv h4, kX5_count_inv l G m σ V ζ n x len B x1 hO hn hv h5⟩
  obtain ⟨w, hw, rfl⟩ := z_ofle (m := 14) (by omega) hv
  rcases (show w = 0 ∨ w = 1 ∨ w = 2 ∨ w = 3 ∨ w = 4 ∨ w = 5 ∨ w = 6 ∨ w = 7 ∨ w = 8 ∨ w = 9 ∨ w = 10 ∨ w = 11 ∨ w = 12 ∨ w = 13 ∨ w = 14 by omega) with rfl | rfl | rfl | rfl | rfl | rfl | rfl | rfl | rfl | rfl | rfl | rfl | rfl | rfl | rfl
  · exact ⟨_, _, _, _, _, _, _, _, _, _, _, hI.keep hN, kX4_count_0 l G ad σ T o n f x len hO ho hn h4, kX5_count_0 l G m σ V ζ n x len B hO hn h5⟩
  · exact ⟨_, _, _, _, _, _, _, _, _, _, _, hI.keep hN, kX4_count_1 l G ad σ T o n f x len hO ho hn h4, kX5_count_1 l G m σ V ζ n x len B hO hn h5⟩
  · exact ⟨_, _, _, _, _, _, _, _, _, _, _, hI.keep hN, kX4_count_2 l G ad σ T o n f x len hO ho hn h4, kX5_count_2 l G m σ V ζ n x len B hO hn h5⟩
  · exact ⟨_, _, _, _, _, _, _, _, _, _, _, hI.keep hN, kX4_count_3 l G ad σ T o n f x len hO ho hn h4, kX5_count_3 l G m σ V ζ n x len B hO hn h5⟩
  · exact ⟨_, _, _, _, _, _, _, _, _, _, _, hI.keep hN, kX4_count_4 l G ad σ T o n f x len hO ho hn h4, kX5_count_4 l G m σ V ζ n x len B hO hn h5⟩
  · exact ⟨_, _, _, _, _, _, _, _, _, _, _, hI.keep hN, kX4_count_5 l G ad σ T o n f x len hO ho hn h4, kX5_count_5 l G m σ V ζ n x len B hO hn h5⟩
  · exact ⟨_, _, _, _, _, _, _, _, _, _, _, hI.keep hN, kX4_count_6 l G ad σ T o n f x len hO ho hn h4, kX5_count_6 l G m σ V ζ n x len B hO hn h5⟩
  · exact ⟨_, _, _, _, _, _, _, _, _, _, _, hI.keep hN, kX4_count_7 l G ad σ T o n f x len hO ho hn h4, kX5_count_7 l G m σ V ζ n x len B hO hn h5⟩
  · exact ⟨_, _, _, _, _, _, _, _, _, _, _, hI.keep hN, kX4_count_8 l G ad σ T o n f x len hO ho hn h4, kX5_count_8 l G m σ V ζ n x len B hO hn h5⟩
  · exact ⟨_, _, _, _, _, _, _, _, _, _, _, hI.keep hN, kX4_count_9 l G ad σ T o n f x len hO ho hn h4, kX5_count_9 l G m σ V ζ n x len B hO hn h5⟩
  · exact ⟨_, _, _, _, _, _, _, _, _, _, _, hI.keep hN, kX4_count_10 l G ad σ T o n f x len hO ho hn h4, kX5_count_10 l G m σ V ζ n x len B hO hn h5⟩
  · exact ⟨_, _, _, _, _, _, _, _, _, _, _, hI.keep hN, kX4_count_11 l G ad σ T o n f x len hO ho hn h4, kX5_count_11 l G m σ V ζ n x len B hO hn h5⟩
  · exact ⟨_, _, _, _, _, _, _, _, _, _, _, hI.keep hN, kX4_count_12 l G ad σ T o n f x len hO ho hn h4, kX5_count_12 l G m σ V ζ n x len B hO hn h5⟩
  · exact ⟨_, _, _, _, _, _, _, _, _, _, _, hI.keep hN, kX4_count_13 l G ad σ T o n f x len hO ho hn h4, kX5_count_13 l G m σ V ζ n x len B hO hn h5⟩
  · exact ⟨_, _, _, _, _, _, _, _, _, _, _, hI.keep hN, kX4_count_14 l G ad σ T o n f x len hO ho hn h4, kX5_count_14 l G m σ V ζ n x len B hO hn h5⟩
set_option maxHeartbeats 4000000 in
theorem pr_undo (l : Launch) (G : zG) (ad : Nat → Nat → Nat) (m : Nat → Nat) {N : Nat} {σ : Nat → Nat} {T : Nat → Nat → Nat} {o n : Nat} (f : Nat → Int32) {x : Nat → Nat} {len : Nat} {V : Nat → Nat → Nat} (ζ : Nat → Nat) (B : Nat → Int32) (hI : Iv N σ T o n V x len) (hN : N + 1 < 100000) (h4 : va_D (fun _ => True) (wX G ad σ T o n f x len)) (h5 : va_D (fun _ => True) (wM G m σ V ζ n x len B)) : Pr l G yX4_undo wsX4_undo 5 125 yX5_undo wsX5_undo 0 0 [] ad m N σ T o n f x len V ζ B := by
  obtain ⟨hO, hC, ho, hn, hlen, htx, hH⟩ := id hI
  have hS := hO.lS
  have hE := hO.lE
  by_cases hz : n = 0
  · exact ⟨_, _, _, _, _, _, _, _, _, _, _, hI.keep hN, kX4_undo_none l G ad σ T o n f x len hO ho hn hz h4, kX5_undo_none l G m σ V ζ n x len B hO hn hz h5⟩
  · have hz : 1 ≤ n := by omega
    have hT := (hH (n - 1) (by omega)).1
    have h := kX4_undo_ok l G ad σ T o n f x len hO ho hn hz h4
    rw [hT] at h
    exact ⟨_, _, _, _, _, _, _, _, _, _, _, hI.undo hN hz, h, kX5_undo_ok l G m σ V ζ n x len B hO hn hz h5⟩
set_option maxHeartbeats 4000000 in
theorem pr_edge (l : Launch) (G : zG) (ad : Nat → Nat → Nat) (m : Nat → Nat) {N : Nat} {σ : Nat → Nat} {T : Nat → Nat → Nat} {o n : Nat} (f : Nat → Int32) {x : Nat → Nat} {len : Nat} {V : Nat → Nat → Nat} (ζ : Nat → Nat) (B : Nat → Int32) (hI : Iv N σ T o n V x len) (hN : N + 1 < 100000) (h4 : va_D (fun _ => True) (wX G ad σ T o n f x len)) (h5 : va_D (fun _ => True) (wM G m σ V ζ n x len B)) (x1 x2 : Int32) : Pr l G yX4_edge wsX4_edge 5 111 yX5_edge wsX5_edge 6 138 [.int x1, .int x2] ad m N σ T o n f x len V ζ B := by
  obtain ⟨hO, hC, ho, hn, hlen, htx, hH⟩ := id hI
  have hS := hO.lS
  have hE := hO.lE
  by_cases hv : (0 ≤ x1 ∧ x1 < nI (nE σ))
  rotate_left
  · exact ⟨_, _, _, _, _, _, _, _, _, _, _, hI.keep hN, kX4_edge_inv l G ad σ T o n f x len x1 x2 hO ho hn hv h4, kX5_edge_inv l G m σ V ζ n x len B x1 x2 hO hn hv h5⟩
  obtain ⟨e, he, rfl⟩ := z_of (by omega) hv
  by_cases hv : (nI 0 ≤ x2 ∧ x2 ≤ nI 6)
  rotate_left
  · exact ⟨_, _, _, _, _, _, _, _, _, _, _, hI.keep hN, kX4_edge_what l G ad σ T o n f x len e x2 hO ho hn he hv h4, kX5_edge_what l G m σ V ζ n x len B e x2 hO hn he hv h5⟩
  obtain ⟨w, hw, rfl⟩ := z_ofle (m := 6) (by omega) hv
  rcases (show w = 0 ∨ w = 1 ∨ w = 2 ∨ w = 3 ∨ w = 4 ∨ w = 5 ∨ w = 6 by omega) with rfl | rfl | rfl | rfl | rfl | rfl | rfl
  · exact ⟨_, _, _, _, _, _, _, _, _, _, _, hI.keep hN, kX4_edge_0 l G ad σ T o n f x len e hO ho hn he h4, kX5_edge_0 l G m σ V ζ n x len B e hO hn he h5⟩
  · exact ⟨_, _, _, _, _, _, _, _, _, _, _, hI.keep hN, kX4_edge_1 l G ad σ T o n f x len e hO ho hn he h4, kX5_edge_1 l G m σ V ζ n x len B e hO hn he h5⟩
  · exact ⟨_, _, _, _, _, _, _, _, _, _, _, hI.keep hN, kX4_edge_2 l G ad σ T o n f x len e hO ho hn he h4, kX5_edge_2 l G m σ V ζ n x len B e hO hn he h5⟩
  · exact ⟨_, _, _, _, _, _, _, _, _, _, _, hI.keep hN, kX4_edge_3 l G ad σ T o n f x len e hO ho hn he h4, kX5_edge_3 l G m σ V ζ n x len B e hO hn he h5⟩
  · exact ⟨_, _, _, _, _, _, _, _, _, _, _, hI.keep hN, kX4_edge_4 l G ad σ T o n f x len e hO ho hn he h4, kX5_edge_4 l G m σ V ζ n x len B e hO hn he h5⟩
  · exact ⟨_, _, _, _, _, _, _, _, _, _, _, hI.keep hN, kX4_edge_5 l G ad σ T o n f x len e hO ho hn he h4, kX5_edge_5 l G m σ V ζ n x len B e hO hn he h5⟩
  · exact ⟨_, _, _, _, _, _, _, _, _, _, _, hI.keep hN, kX4_edge_6 l G ad σ T o n f x len e hO ho hn he h4, kX5_edge_6 l G m σ V ζ n x len B e hO hn he h5⟩
set_option maxHeartbeats 4000000 in
theorem pr_edgeAt (l : Launch) (G : zG) (ad : Nat → Nat → Nat) (m : Nat → Nat) {N : Nat} {σ : Nat → Nat} {T : Nat → Nat → Nat} {o n : Nat} (f : Nat → Int32) {x : Nat → Nat} {len : Nat} {V : Nat → Nat → Nat} (ζ : Nat → Nat) (B : Nat → Int32) (hI : Iv N σ T o n V x len) (hN : N + 1 < 100000) (h4 : va_D (fun _ => True) (wX G ad σ T o n f x len)) (h5 : va_D (fun _ => True) (wM G m σ V ζ n x len B)) (x1 x2 : Int32) : Pr l G yX4_edgeAt wsX4_edgeAt 2 47 yX5_edgeAt wsX5_edgeAt 2 45 [.int x1, .int x2] ad m N σ T o n f x len V ζ B := by
  obtain ⟨hO, hC, ho, hn, hlen, htx, hH⟩ := id hI
  have hS := hO.lS
  have hE := hO.lE
  by_cases hv : ((0 ≤ x1 ∧ x1 < nI (nS σ)) ∧ (nI 0 ≤ x2 ∧ x2 ≤ nI 3))
  rotate_left
  · exact ⟨_, _, _, _, _, _, _, _, _, _, _, hI.keep hN, kX4_edgeAt_inv l G ad σ T o n f x len x1 x2 hO ho hn hv h4, kX5_edgeAt_inv l G m σ V ζ n x len B x1 x2 hO hn hv h5⟩
  obtain ⟨k, hk, rfl⟩ := z_of (by omega) hv.1
  obtain ⟨d, hd4, rfl⟩ := z_ofle (m := 3) (by omega) hv.2
  have hd4 : d < 4 := by omega
  exact ⟨_, _, _, _, _, _, _, _, _, _, _, hI.keep hN, kX4_edgeAt_ok l G ad σ T o n f x len k d hO ho hn hk hd4 h4, kX5_edgeAt_ok l G m σ V ζ n x len B k d hO hn hk hd4 h5⟩
set_option maxHeartbeats 4000000 in
theorem pr_quarrel (l : Launch) (G : zG) (ad : Nat → Nat → Nat) (m : Nat → Nat) {N : Nat} {σ : Nat → Nat} {T : Nat → Nat → Nat} {o n : Nat} (f : Nat → Int32) {x : Nat → Nat} {len : Nat} {V : Nat → Nat → Nat} (ζ : Nat → Nat) (B : Nat → Int32) (hI : Iv N σ T o n V x len) (hN : N + 1 < 100000) (h4 : va_D (fun _ => True) (wX G ad σ T o n f x len)) (h5 : va_D (fun _ => True) (wM G m σ V ζ n x len B)) (x1 x2 x3 : Int32) : Pr l G yX4_quarrel wsX4_quarrel 4 94 yX5_quarrel wsX5_quarrel 6 139 [.int x1, .int x2, .int x3] ad m N σ T o n f x len V ζ B := by
  obtain ⟨hO, hC, ho, hn, hlen, htx, hH⟩ := id hI
  have hS := hO.lS
  have hE := hO.lE
  by_cases hv : ((0 ≤ x1 ∧ x1 < nI (nE σ)) ∧ ¬ (x2 < 0) ∧ (nI 0 ≤ x3 ∧ x3 ≤ nI 3))
  rotate_left
  · exact ⟨_, _, _, _, _, _, _, _, _, _, _, hI.keep hN, kX4_quarrel_inv l G ad σ T o n f x len x1 x2 x3 hO ho hn hv h4, kX5_quarrel_inv l G m σ V ζ n x len B x1 x2 x3 hO hn hv h5⟩
  obtain ⟨e, he, rfl⟩ := z_of (by omega) hv.1
  obtain ⟨i, hi31, rfl⟩ := nI_of hv.2.1
  obtain ⟨w, hw, rfl⟩ := z_ofle (m := 3) (by omega) hv.2.2
  rcases (show w = 0 ∨ w = 1 ∨ w = 2 ∨ w = 3 by omega) with rfl | rfl | rfl | rfl
  · by_cases hq : pq σ e i = 10
    · exact ⟨_, _, _, _, _, _, _, _, _, _, _, hI.keep hN, kX4_quarrel_none0 l G ad σ T o n f x len e i hO ho hn he hi31 hq h4, kX5_quarrel_none0 l G m σ V ζ n x len B e i hO hn he hi31 hq h5⟩
    · exact ⟨_, _, _, _, _, _, _, _, _, _, _, hI.keep hN, kX4_quarrel_0 l G ad σ T o n f x len e i hO ho hn he hi31 hq h4, kX5_quarrel_0 l G m σ V ζ n x len B e i hO hn he hi31 hq h5⟩
  · by_cases hq : pq σ e i = 10
    · exact ⟨_, _, _, _, _, _, _, _, _, _, _, hI.keep hN, kX4_quarrel_none1 l G ad σ T o n f x len e i hO ho hn he hi31 hq h4, kX5_quarrel_none1 l G m σ V ζ n x len B e i hO hn he hi31 hq h5⟩
    · exact ⟨_, _, _, _, _, _, _, _, _, _, _, hI.keep hN, kX4_quarrel_1 l G ad σ T o n f x len e i hO ho hn he hi31 hq h4, kX5_quarrel_1 l G m σ V ζ n x len B e i hO hn he hi31 hq h5⟩
  · by_cases hq : pq σ e i = 10
    · exact ⟨_, _, _, _, _, _, _, _, _, _, _, hI.keep hN, kX4_quarrel_none2 l G ad σ T o n f x len e i hO ho hn he hi31 hq h4, kX5_quarrel_none2 l G m σ V ζ n x len B e i hO hn he hi31 hq h5⟩
    · exact ⟨_, _, _, _, _, _, _, _, _, _, _, hI.keep hN, kX4_quarrel_2 l G ad σ T o n f x len e i hO ho hn he hi31 hq h4, kX5_quarrel_2 l G m σ V ζ n x len B e i hO hn he hi31 hq h5⟩
  · by_cases hq : pq σ e i = 10
    · exact ⟨_, _, _, _, _, _, _, _, _, _, _, hI.keep hN, kX4_quarrel_none3 l G ad σ T o n f x len e i hO ho hn he hi31 hq h4, kX5_quarrel_none3 l G m σ V ζ n x len B e i hO hn he hi31 hq h5⟩
    · exact ⟨_, _, _, _, _, _, _, _, _, _, _, hI.keep hN, kX4_quarrel_3 l G ad σ T o n f x len e i hO ho hn he hi31 hq h4, kX5_quarrel_3 l G m σ V ζ n x len B e i hO hn he hi31 hq h5⟩
set_option maxHeartbeats 4000000 in
theorem pr_agree (l : Launch) (G : zG) (ad : Nat → Nat → Nat) (m : Nat → Nat) {N : Nat} {σ : Nat → Nat} {T : Nat → Nat → Nat} {o n : Nat} (f : Nat → Int32) {x : Nat → Nat} {len : Nat} {V : Nat → Nat → Nat} (ζ : Nat → Nat) (B : Nat → Int32) (hI : Iv N σ T o n V x len) (hN : N + 1 < 100000) (h4 : va_D (fun _ => True) (wX G ad σ T o n f x len)) (h5 : va_D (fun _ => True) (wM G m σ V ζ n x len B)) (x1 : Int32) : Pr l G yX4_agree wsX4_agree 4 104 yX5_agree wsX5_agree 6 138 [.int x1] ad m N σ T o n f x len V ζ B := by
  obtain ⟨hO, hC, ho, hn, hlen, htx, hH⟩ := id hI
  have hS := hO.lS
  have hE := hO.lE
  by_cases hv : (0 ≤ x1 ∧ x1 < nI (nE σ))
  rotate_left
  · exact ⟨_, _, _, _, _, _, _, _, _, _, _, hI.keep hN, kX4_agree_inv l G ad σ T o n f x len x1 hO ho hn hv h4, kX5_agree_inv l G m σ V ζ n x len B x1 hO hn hv h5⟩
  obtain ⟨e, he, rfl⟩ := z_of (by omega) hv
  by_cases hq : qrl σ e = 0
  · exact ⟨_, _, _, _, _, _, _, _, _, _, _, hI.push hN ((hO.su_ag (by omega) (by omega)).up hN) (cln_ag hO hC he (fun _ => hq)), kX4_agree_ok l G ad σ T o n f x len e hO ho hn he hq h4, kX5_agree_ok l G m σ V ζ n x len B e hO hn he hq h5⟩
  · exact ⟨_, _, _, _, _, _, _, _, _, _, _, hI.keep hN, kX4_agree_no l G ad σ T o n f x len e hO ho hn he (show 0 < qrl σ e by omega) h4, kX5_agree_no l G m σ V ζ n x len B e hO hn he (show 0 < qrl σ e by omega) h5⟩
set_option maxHeartbeats 4000000 in
theorem pr_release (l : Launch) (G : zG) (ad : Nat → Nat → Nat) (m : Nat → Nat) {N : Nat} {σ : Nat → Nat} {T : Nat → Nat → Nat} {o n : Nat} (f : Nat → Int32) {x : Nat → Nat} {len : Nat} {V : Nat → Nat → Nat} (ζ : Nat → Nat) (B : Nat → Int32) (hI : Iv N σ T o n V x len) (hN : N + 1 < 100000) (h4 : va_D (fun _ => True) (wX G ad σ T o n f x len)) (h5 : va_D (fun _ => True) (wM G m σ V ζ n x len B)) (x1 : Int32) : Pr l G yX4_release wsX4_release 4 104 yX5_release wsX5_release 5 109 [.int x1] ad m N σ T o n f x len V ζ B := by
  obtain ⟨hO, hC, ho, hn, hlen, htx, hH⟩ := id hI
  have hS := hO.lS
  have hE := hO.lE
  by_cases hv : (0 ≤ x1 ∧ x1 < nI (nE σ))
  rotate_left
  · exact ⟨_, _, _, _, _, _, _, _, _, _, _, hI.keep hN, kX4_release_inv l G ad σ T o n f x len x1 hO ho hn hv h4, kX5_release_inv l G m σ V ζ n x len B x1 hO hn hv h5⟩
  obtain ⟨e, he, rfl⟩ := z_of (by omega) hv
  by_cases hq : agn σ e = 1
  · exact ⟨_, _, _, _, _, _, _, _, _, _, _, hI.push hN ((hO.su_ag (by omega) (by omega)).up hN) (cln_ag hO hC he (fun q => by omega)), kX4_release_ok l G ad σ T o n f x len e hO ho hn he hq h4, kX5_release_ok l G m σ V ζ n x len B e hO hn he hq h5⟩
  · exact ⟨_, _, _, _, _, _, _, _, _, _, _, hI.keep hN, kX4_release_no l G ad σ T o n f x len e hO ho hn he hq h4, kX5_release_no l G m σ V ζ n x len B e hO hn he hq h5⟩
set_option maxHeartbeats 4000000 in
theorem pr_settle (l : Launch) (G : zG) (ad : Nat → Nat → Nat) (m : Nat → Nat) {N : Nat} {σ : Nat → Nat} {T : Nat → Nat → Nat} {o n : Nat} (f : Nat → Int32) {x : Nat → Nat} {len : Nat} {V : Nat → Nat → Nat} (ζ : Nat → Nat) (B : Nat → Int32) (hI : Iv N σ T o n V x len) (hN : N + 1 < 100000) (h4 : va_D (fun _ => True) (wX G ad σ T o n f x len)) (h5 : va_D (fun _ => True) (wM G m σ V ζ n x len B)) (x1 x2 : Int32) : Pr l G yX4_settle wsX4_settle 4 104 yX5_settle wsX5_settle 4 91 [.int x1, .int x2] ad m N σ T o n f x len V ζ B := by
  obtain ⟨hO, hC, ho, hn, hlen, htx, hH⟩ := id hI
  have hS := hO.lS
  have hE := hO.lE
  by_cases hv : (0 ≤ x1 ∧ x1 < nI (nE σ))
  rotate_left
  · exact ⟨_, _, _, _, _, _, _, _, _, _, _, hI.keep hN, kX4_settle_inv l G ad σ T o n f x len x1 x2 hO ho hn hv h4, kX5_settle_inv l G m σ V ζ n x len B x1 x2 hO hn hv h5⟩
  obtain ⟨e, he, rfl⟩ := z_of (by omega) hv
  by_cases hv1 : x2 = nI (fS σ e)
  · subst hv1
    by_cases hbad : sbd σ (fS σ e) (fD σ e) (sS σ e) (sD σ e) < 10
    · exact ⟨_, _, _, _, _, _, _, _, _, _, _, hI.hold hN σ, kX4_settle_f_no l G ad σ T o n f x len e hO ho hn he hbad h4, kX5_settle_f_no l G m σ V ζ n x len B e hO hn he hbad h5⟩
    · have hX := stE_ok hO hN hC he (Or.inl ⟨rfl, rfl, rfl, rfl⟩) hbad
      exact ⟨_, _, _, _, _, _, _, _, _, _, _, hI.push hN hX.1 hX.2, kX4_settle_f_ok l G ad σ T o n f x len e hO ho hn he hbad h4, kX5_settle_f_ok l G m σ V ζ n x len B e hO hn he hbad h5⟩
  by_cases hv2 : x2 = nI (sS σ e)
  · subst hv2
    by_cases hbad : sbd σ (sS σ e) (sD σ e) (fS σ e) (fD σ e) < 10
    · exact ⟨_, _, _, _, _, _, _, _, _, _, _, hI.hold hN σ, kX4_settle_s_no l G ad σ T o n f x len e hO ho hn he hbad h4, kX5_settle_s_no l G m σ V ζ n x len B e hO hn he hbad h5⟩
    · have hX := stE_ok hO hN hC he (Or.inr ⟨rfl, rfl, rfl, rfl⟩) hbad
      exact ⟨_, _, _, _, _, _, _, _, _, _, _, hI.push hN hX.1 hX.2, kX4_settle_s_ok l G ad σ T o n f x len e hO ho hn he hbad h4, kX5_settle_s_ok l G m σ V ζ n x len B e hO hn he hbad h5⟩
  · exact ⟨_, _, _, _, _, _, _, _, _, _, _, hI.keep hN, kX4_settle_neither l G ad σ T o n f x len e x2 hO ho hn he hv1 hv2 h4, kX5_settle_neither l G m σ V ζ n x len B e x2 hO hn he hv1 hv2 h5⟩
set_option maxHeartbeats 4000000 in
theorem pr_ratio (l : Launch) (G : zG) (ad : Nat → Nat → Nat) (m : Nat → Nat) {N : Nat} {σ : Nat → Nat} {T : Nat → Nat → Nat} {o n : Nat} (f : Nat → Int32) {x : Nat → Nat} {len : Nat} {V : Nat → Nat → Nat} (ζ : Nat → Nat) (B : Nat → Int32) (hI : Iv N σ T o n V x len) (hN : N + 1 < 100000) (h4 : va_D (fun _ => True) (wX G ad σ T o n f x len)) (h5 : va_D (fun _ => True) (wM G m σ V ζ n x len B)) (x1 : Int32) : Pr l G yX4_ratio wsX4_ratio 4 86 yX5_ratio wsX5_ratio 4 84 [.int x1] ad m N σ T o n f x len V ζ B := by
  obtain ⟨hO, hC, ho, hn, hlen, htx, hH⟩ := id hI
  have hS := hO.lS
  have hE := hO.lE
  by_cases hv : (0 ≤ x1 ∧ x1 < nI (nE σ))
  rotate_left
  · exact ⟨_, _, _, _, _, _, _, _, _, _, _, hI.keep hN, kX4_ratio_inv l G ad σ T o n f x len x1 hO ho hn hv h4, kX5_ratio_inv l G m σ V ζ n x len B x1 hO hn hv h5⟩
  obtain ⟨e, he, rfl⟩ := z_of (by omega) hv
  exact ⟨_, _, _, _, _, _, _, _, _, _, _, hI.keep hN, kX4_ratio_ok l G ad σ T o n f x len e hO ho hn he h4, kX5_ratio_ok l G m σ V ζ n x len B e hO hn he h5⟩
set_option maxHeartbeats 4000000 in
theorem pr_publish (l : Launch) (G : zG) (ad : Nat → Nat → Nat) (m : Nat → Nat) {N : Nat} {σ : Nat → Nat} {T : Nat → Nat → Nat} {o n : Nat} (f : Nat → Int32) {x : Nat → Nat} {len : Nat} {V : Nat → Nat → Nat} (ζ : Nat → Nat) (B : Nat → Int32) (hI : Iv N σ T o n V x len) (hN : N + 1 < 100000) (h4 : va_D (fun _ => True) (wX G ad σ T o n f x len)) (h5 : va_D (fun _ => True) (wM G m σ V ζ n x len B)) (x1 : Int32) : Pr l G yX4_publish wsX4_publish 4 104 yX5_publish wsX5_publish 3 70 [.int x1] ad m N σ T o n f x len V ζ B := by
  obtain ⟨hO, hC, ho, hn, hlen, htx, hH⟩ := id hI
  have hS := hO.lS
  have hE := hO.lE
  by_cases hv : (0 ≤ x1 ∧ x1 < nI (nS σ))
  rotate_left
  · exact ⟨_, _, _, _, _, _, _, _, _, _, _, hI.keep hN, kX4_publish_inv l G ad σ T o n f x len x1 hO ho hn hv h4, kX5_publish_inv l G m σ V ζ n x len B x1 hO hn hv h5⟩
  obtain ⟨k, hk, rfl⟩ := z_of (by omega) hv
  by_cases hq : nAd σ k < nEd σ k
  · exact ⟨_, _, _, _, _, _, _, _, _, _, _, hI.keep hN, kX4_publish_no l G ad σ T o n f x len k hO ho hn hk hq h4, kX5_publish_no l G m σ V ζ n x len B k hO hn hk hq h5⟩
  · have hr := hO.rv (show k < 36 by omega)
    exact ⟨_, _, _, _, _, _, _, _, _, _, _, hI.push hN ((hO.su_pb (by omega)).up hN) (cln_su hO hC (by omega) (fun k y hy => by omega) (fun e he => by omega)), kX4_publish_ok l G ad σ T o n f x len k hO ho hn hk hq h4, kX5_publish_ok l G m σ V ζ n x len B k hO hn hk hq h5⟩
set_option maxHeartbeats 4000000 in
theorem pr_scale (l : Launch) (G : zG) (ad : Nat → Nat → Nat) (m : Nat → Nat) {N : Nat} {σ : Nat → Nat} {T : Nat → Nat → Nat} {o n : Nat} (f : Nat → Int32) {x : Nat → Nat} {len : Nat} {V : Nat → Nat → Nat} (ζ : Nat → Nat) (B : Nat → Int32) (hI : Iv N σ T o n V x len) (hN : N + 1 < 100000) (h4 : va_D (fun _ => True) (wX G ad σ T o n f x len)) (h5 : va_D (fun _ => True) (wM G m σ V ζ n x len B)) (x1 x2 : Int32) : Pr l G yX4_scale wsX4_scale 4 104 yX5_scale wsX5_scale 2 41 [.int x1, .int x2] ad m N σ T o n f x len V ζ B := by
  obtain ⟨hO, hC, ho, hn, hlen, htx, hH⟩ := id hI
  have hS := hO.lS
  have hE := hO.lE
  by_cases hv : ((0 ≤ x1 ∧ x1 < nI (nS σ)) ∧ (nI 1 ≤ x2 ∧ x2 ≤ nI 1000000))
  rotate_left
  · exact ⟨_, _, _, _, _, _, _, _, _, _, _, hI.keep hN, kX4_scale_inv l G ad σ T o n f x len x1 x2 hO ho hn hv h4, kX5_scale_inv l G m σ V ζ n x len B x1 x2 hO hn hv h5⟩
  obtain ⟨k, hk, rfl⟩ := z_of (by omega) hv.1
  obtain ⟨v, hv1, hv2, rfl⟩ := z_ofrg (by omega) (by omega) hv.2
  exact ⟨_, _, _, _, _, _, _, _, _, _, _, hI.push hN ((hO.su_sc ⟨hv1, hv2⟩).up hN) (cln_su hO hC (by omega) (fun k y hy => by omega) (fun e he => by omega)), kX4_scale_ok l G ad σ T o n f x len k v hO ho hn hk hv1 hv2 h4, kX5_scale_ok l G m σ V ζ n x len B k v hO hn hk hv1 hv2 h5⟩
set_option maxHeartbeats 4000000 in
theorem pr_stretched (l : Launch) (G : zG) (ad : Nat → Nat → Nat) (m : Nat → Nat) {N : Nat} {σ : Nat → Nat} {T : Nat → Nat → Nat} {o n : Nat} (f : Nat → Int32) {x : Nat → Nat} {len : Nat} {V : Nat → Nat → Nat} (ζ : Nat → Nat) (B : Nat → Int32) (hI : Iv N σ T o n V x len) (hN : N + 1 < 100000) (h4 : va_D (fun _ => True) (wX G ad σ T o n f x len)) (h5 : va_D (fun _ => True) (wM G m σ V ζ n x len B)) (x1 x2 : Int32) : Pr l G yX4_stretched wsX4_stretched 3 64 yX5_stretched wsX5_stretched 2 43 [.int x1, .int x2] ad m N σ T o n f x len V ζ B := by
  obtain ⟨hO, hC, ho, hn, hlen, htx, hH⟩ := id hI
  have hS := hO.lS
  have hE := hO.lE
  by_cases hv : ((0 ≤ x1 ∧ x1 < nI (nS σ)) ∧ (nI 0 ≤ x2 ∧ x2 ≤ nI 10000000))
  rotate_left
  · exact ⟨_, _, _, _, _, _, _, _, _, _, _, hI.keep hN, kX4_stretched_inv l G ad σ T o n f x len x1 x2 hO ho hn hv h4, kX5_stretched_inv l G m σ V ζ n x len B x1 x2 hO hn hv h5⟩
  obtain ⟨k, hk, rfl⟩ := z_of (by omega) hv.1
  obtain ⟨u, hu, rfl⟩ := z_ofle (m := 10000000) (by omega) hv.2
  exact ⟨_, _, _, _, _, _, _, _, _, _, _, hI.keep hN, kX4_stretched_ok l G ad σ T o n f x len k u hO ho hn hk hu h4, kX5_stretched_ok l G m σ V ζ n x len B k u hO hn hk hu h5⟩
set_option maxHeartbeats 4000000 in
theorem pr_type (l : Launch) (G : zG) (ad : Nat → Nat → Nat) (m : Nat → Nat) {N : Nat} {σ : Nat → Nat} {T : Nat → Nat → Nat} {o n : Nat} (f : Nat → Int32) {x : Nat → Nat} {len : Nat} {V : Nat → Nat → Nat} (ζ : Nat → Nat) (B : Nat → Int32) (hI : Iv N σ T o n V x len) (hN : N + 1 < 100000) (h4 : va_D (fun _ => True) (wX G ad σ T o n f x len)) (h5 : va_D (fun _ => True) (wM G m σ V ζ n x len B)) (x1 : Int32) : Pr l G yX4_type wsX4_type 1 22 yX5_type wsX5_type 1 22 [.int x1] ad m N σ T o n f x len V ζ B := by
  obtain ⟨hO, hC, ho, hn, hlen, htx, hH⟩ := id hI
  have hS := hO.lS
  have hE := hO.lE
  by_cases hv : (nI 32 ≤ x1 ∧ x1 ≤ nI 126)
  rotate_left
  · exact ⟨_, _, _, _, _, _, _, _, _, _, _, hI.keep hN, kX4_type_inv l G ad σ T o n f x len x1 hO ho hn hv h4, kX5_type_inv l G m σ V ζ n x len B x1 hO hn hv h5⟩
  obtain ⟨c, hc1, hc2, rfl⟩ := z_ofrg (by omega) (by omega) hv
  by_cases hq : len = 100
  · exact ⟨_, _, _, _, _, _, _, _, _, _, _, hI.keep hN, kX4_type_full l G ad σ T o n f x len c hO ho hn hlen hc1 hc2 hq h4, kX5_type_full l G m σ V ζ n x len B c hO hn hlen hc1 hc2 hq h5⟩
  · have hq : len < 100 := by omega
    exact ⟨_, _, _, _, _, _, _, _, _, _, _, hI.text hN (by omega) (tx_su htx (by omega)), kX4_type_ok l G ad σ T o n f x len c hO ho hn hlen hc1 hc2 hq h4, kX5_type_ok l G m σ V ζ n x len B c hO hn hlen hc1 hc2 hq h5⟩
set_option maxHeartbeats 4000000 in
theorem pr_clearText (l : Launch) (G : zG) (ad : Nat → Nat → Nat) (m : Nat → Nat) {N : Nat} {σ : Nat → Nat} {T : Nat → Nat → Nat} {o n : Nat} (f : Nat → Int32) {x : Nat → Nat} {len : Nat} {V : Nat → Nat → Nat} (ζ : Nat → Nat) (B : Nat → Int32) (hI : Iv N σ T o n V x len) (hN : N + 1 < 100000) (h4 : va_D (fun _ => True) (wX G ad σ T o n f x len)) (h5 : va_D (fun _ => True) (wM G m σ V ζ n x len B)) : Pr l G yX4_clearText wsX4_clearText 1 20 yX5_clearText wsX5_clearText 0 0 [] ad m N σ T o n f x len V ζ B := by
  obtain ⟨hO, hC, ho, hn, hlen, htx, hH⟩ := id hI
  have hS := hO.lS
  have hE := hO.lE
  exact ⟨_, _, _, _, _, _, _, _, _, _, _, hI.text hN (by omega) htx, kX4_clearText_ok l G ad σ T o n f x len hO ho hn hlen htx h4, kX5_clearText_ok l G m σ V ζ n x len B hO hn hlen htx h5⟩
set_option maxHeartbeats 4000000 in
theorem pr_fault (l : Launch) (G : zG) (ad : Nat → Nat → Nat) (m : Nat → Nat) {N : Nat} {σ : Nat → Nat} {T : Nat → Nat → Nat} {o n : Nat} (f : Nat → Int32) {x : Nat → Nat} {len : Nat} {V : Nat → Nat → Nat} (ζ : Nat → Nat) (B : Nat → Int32) (hI : Iv N σ T o n V x len) (hN : N + 1 < 100000) (h4 : va_D (fun _ => True) (wX G ad σ T o n f x len)) (h5 : va_D (fun _ => True) (wM G m σ V ζ n x len B)) : PrR l G yX4_fault wsX4_fault 4 85 yX5_fault wsX5_fault 4 86 [] ad m N σ T o n f x len V ζ B := by
  obtain ⟨hO, hC, ho, hn, hlen, htx, hH⟩ := id hI
  have hS := hO.lS
  have hE := hO.lE
  exact ⟨_, _, _, _, _, _, _, _, _, hI.keep hN, kX4_fault_ok l G ad σ T o n f x len hO ho hn hlen htx h4, kX5_fault l G m σ V ζ n x len B hlen htx, rfl⟩
set_option maxHeartbeats 4000000 in
theorem pr_read (l : Launch) (G : zG) (ad : Nat → Nat → Nat) (m : Nat → Nat) {N : Nat} {σ : Nat → Nat} {T : Nat → Nat → Nat} {o n : Nat} (f : Nat → Int32) {x : Nat → Nat} {len : Nat} {V : Nat → Nat → Nat} (ζ : Nat → Nat) (B : Nat → Int32) (hI : Iv N σ T o n V x len) (hN : N + 1 < 100000) (h4 : va_D (fun _ => True) (wX G ad σ T o n f x len)) (h5 : va_D (fun _ => True) (wM G m σ V ζ n x len B)) (x1 : Int32) : Pr l G yX4_read wsX4_read 6 138 yX5_read wsX5_read 8 183 [.int x1] ad m N σ T o n f x len V ζ B := by
  obtain ⟨hO, hC, ho, hn, hlen, htx, hH⟩ := id hI
  have hS := hO.lS
  have hE := hO.lE
  by_cases hv : (0 ≤ x1 ∧ x1 < nI (nS σ))
  rotate_left
  · exact ⟨_, _, _, _, _, _, _, _, _, _, _, hI.keep hN, kX4_read_inv l G ad σ T o n f x len x1 hO ho hn hv h4, kX5_read_inv l G m σ V ζ n x len B x1 hO hn hv h5⟩
  obtain ⟨k, hk, rfl⟩ := z_of (by omega) hv
  by_cases hq : flt x len = 200
  rotate_left
  · exact ⟨_, _, _, _, _, _, _, _, _, _, _, hI.keep hN, kX4_read_flt l G ad σ T o n f x len k hO ho hn hlen htx hk hq h4, kX5_read_flt l G m σ V ζ n x len B k hO hn hlen htx hk hq h5⟩
  have hnf := flt_no hlen hq
  obtain ⟨hw, hOk, htk, hzs, -⟩ := tk_inv (k := k) hO hnf len (Nat.le_refl len)
  have hnk : nS ((tkR x k σ len).2.2.2.2) = nS σ := nS_lo (hw 0 (by omega)) (hw 1 (by omega))
  have htk : (tkR x k σ len).2.2.2.1 ≤ 100 := by omega
  by_cases hz : (tkR x k σ len).2.2.2.1 = 0
  · have hCt : Cln ((tkR x k σ len).2.2.2.2) := by rw [hzs hz]; exact hC
    have hg := cln_grs0 hOk hCt
    have h := kX5_read_empty l G m σ V ζ n x len B k hO hn hlen htx hk hq hz (fun q => by have := hg.2; omega) h5
    rw [hg.1, hz] at h
    have h3 := kX4_read_empty l G ad σ T o n f x len k hO ho hn hlen htx hnf hk hq hOk hnk htk hz h4
    exact ⟨_, _, _, _, _, _, _, _, _, _, _, hI.push hN (hOk.up hN) hCt, h3, h⟩
  · have hz : 0 < (tkR x k σ len).2.2.2.1 := by omega
    have hzc := hz
    have hT := hOk
    have Lk := lnk hO hT hN hC hk hw
    by_cases hrf : rfsd ((tkR x k σ len).2.2.2.2) k
    · exact ⟨_, _, _, _, _, _, _, _, _, _, _, hI.hold hN σ, kX4_read_no l G ad σ T o n f x len k hO ho hn hlen htx hnf hk hq hOk hnk htk hz hrf h4, kX5_read_no l G m σ V ζ n x len B k hO hn hlen htx hk hq hzc (Lk.1.mp hrf) h5⟩
    · have h := kX5_read_ok l G m σ V ζ n x len B k hO hn hlen htx hk hq hzc (fun q => hrf (Lk.1.mpr q)) h5
      rw [← Lk.2.1] at h
      exact ⟨_, _, _, _, _, _, _, _, _, _, _, hI.push hN Lk.2.2.2 Lk.2.2.1, kX4_read_ok l G ad σ T o n f x len k hO ho hn hlen htx hnf hk hq hOk hnk htk hz hrf h4, h⟩
