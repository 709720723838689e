set_option maxHeartbeats 4000000 in
set_option maxRecDepth 100000 in
theorem kX4_count_inv (l : Launch) (G : zG) (ad : Nat → Nat → Nat) (σ : Nat → Nat) (T : Nat → Nat → Nat) (o n : Nat) (f : Nat → Int32) (x : Nat → Nat) (len : Nat) {N : Nat} (x1 : Int32) (hO : Ok N σ) (ho : o < 5) (hn : n ≤ 4) (hv : ¬ (nI 0 ≤ x1 ∧ x1 ≤ nI 14)) (hd : va_D (fun _ => True) (wX G ad σ T o n f x len)) : Met l yX4_count wsX4_count (zRm 6 134) (zPc G [.ref (ad 0 0), .int x1] (va_P G.1 vwCl (wX G ad σ T o n f x len))) (zQ (zA (wX G ad σ T o n f x len)) (some (.int ((-1)))) (va_P G.1 vwCl (wX G ad σ T o n f x len))) 0 0 (zA (wX G ad σ T o n f x len)) := by
  refine zmkWi (w := (wX G ad σ T o n f x len)) hd (cc := cX4_count) (maxL := 2) (by decide) rfl (Nat.le_of_ble_eq_true rfl) ?_
  intro pr en st mi ar bl me cd ls Q hx hb hml hown hts hG hP hl hD hS hret
  have hown : st.vm.findClass RX4 = some mi.cls := hown
  have hl : lv_has ls 2 [(0, .ref (ad 0 0)), (1, .int x1)] := hl
  have hP : va_P G.1 vwCl (wX G ad σ T o n f x len) st.heap := hP
  have hD : va_D (zA (wX G ad σ T o n f x len)) (wX G ad σ T o n f x len) := hD
  have hc := hO.c
  have hs := hO.lS
  have hr := hO.lR
  have hne := hO.lE
  refine lv_iload_n hx hb dX4_count_0 rfl (lv_at hl 1 rfl) ?_
  refine lv_tableOut (tgt := 200) hx hb dX4_count_1 (z_out (h := 14) (by decide) hv) (by decide) ?_
  refine lv_iconst (v := (-1)) hx hb dX4_count_200 (by decide) ?_
  exact hret _ _ _ _ _ dX4_count_201 hS (hP) (rfl)
set_option maxHeartbeats 4000000 in
set_option maxRecDepth 100000 in
theorem kX4_count_0 (l : Launch) (G : zG) (ad : Nat → Nat → Nat) (σ : Nat → Nat) (T : Nat → Nat → Nat) (o n : Nat) (f : Nat → Int32) (x : Nat → Nat) (len : Nat) {N : Nat}  (hO : Ok N σ) (ho : o < 5) (hn : n ≤ 4) (hd : va_D (fun _ => True) (wX G ad σ T o n f x len)) : Met l yX4_count wsX4_count (zRm 6 134) (zPc G [.ref (ad 0 0), .int (nI 0)] (va_P G.1 vwCl (wX G ad σ T o n f x len))) (zQ (zA (wX G ad σ T o n f x len)) (some (.int (nI (σ 0)))) (va_P G.1 vwCl (wX G ad σ T o n f x len))) 0 0 (zA (wX G ad σ T o n f x len)) := by
  refine zmkWi (w := (wX G ad σ T o n f x len)) hd (cc := cX4_count) (maxL := 2) (by decide) rfl (Nat.le_of_ble_eq_true rfl) ?_
  intro pr en st mi ar bl me cd ls Q hx hb hml hown hts hG hP hl hD hS hret
  have hown : st.vm.findClass RX4 = some mi.cls := hown
  have hl : lv_has ls 2 [(0, .ref (ad 0 0)), (1, .int (nI 0))] := hl
  have hP : va_P G.1 vwCl (wX G ad σ T o n f x len) st.heap := hP
  have hD : va_D (zA (wX G ad σ T o n f x len)) (wX G ad σ T o n f x len) := hD
  have hinX4 : ∀ w ∈ wsX40, w ∈ wsX4_count := by decide +kernel
  have hf10 := hts (.fieldLink RX4 10 "MapSheets" "now" "LMapSheets$Atlas;") (by decide +kernel)
  have hc := hO.c
  have hs := hO.lS
  have hr := hO.lR
  have hne := hO.lE
  refine lv_iload_n hx hb dX4_count_0 rfl (lv_at hl 1 rfl) ?_
  refine lv_tableIn (off := 75) (tgt := 76) hx hb dX4_count_1 (by decide) (by decide) (by decide) (by decide) ?_
  refine lv_aload_n hx hb dX4_count_76 rfl (lv_at hl 0 rfl) ?_
  refine va_get (D := G.1) (ci := 4) (v := .ref (ad 1 0)) (C := RX4) (T := TX4) (N := 4) hx hb hts hinX4 hown hG.1 hP 0 rfl rfl 0 (by decide) hf10 (fun _ h9 => h9) rfl dX4_count_77 ?_
  refine zrdV (As := []) ⟨hx, hb, hml, hown, hts⟩ (kX0_columnCount l G (ad 1) σ ) (cwV 0 hts gX4_count_X0_columnCount rfl rfl rfl (by decide +kernel) ⟨Nat.le_of_ble_eq_true rfl, Nat.le_of_ble_eq_true rfl⟩) hG (va_recv (q0 := 0) (ci := 0) hG.1 (wX_pA hP) rfl rfl) ((wX_pA hP)) rfl rfl hl.1 dX4_count_80 (Nat.le_of_ble_eq_true rfl) ⟨Nat.le_of_ble_eq_true rfl, Nat.le_of_ble_eq_true rfl⟩ ?_
  exact hret _ _ _ _ _ dX4_count_83 hS (hP) (congrArg nI (rfl))
set_option maxHeartbeats 4000000 in
set_option maxRecDepth 100000 in
theorem kX4_count_1 (l : Launch) (G : zG) (ad : Nat → Nat → Nat) (σ : Nat → Nat) (T : Nat → Nat → Nat) (o n : Nat) (f : Nat → Int32) (x : Nat → Nat) (len : Nat) {N : Nat}  (hO : Ok N σ) (ho : o < 5) (hn : n ≤ 4) (hd : va_D (fun _ => True) (wX G ad σ T o n f x len)) : Met l yX4_count wsX4_count (zRm 6 134) (zPc G [.ref (ad 0 0), .int (nI 1)] (va_P G.1 vwCl (wX G ad σ T o n f x len))) (zQ (zA (wX G ad σ T o n f x len)) (some (.int (nI (σ 1)))) (va_P G.1 vwCl (wX G ad σ T o n f x len))) 0 0 (zA (wX G ad σ T o n f x len)) := by
  refine zmkWi (w := (wX G ad σ T o n f x len)) hd (cc := cX4_count) (maxL := 2) (by decide) rfl (Nat.le_of_ble_eq_true rfl) ?_
  intro pr en st mi ar bl me cd ls Q hx hb hml hown hts hG hP hl hD hS hret
  have hown : st.vm.findClass RX4 = some mi.cls := hown
  have hl : lv_has ls 2 [(0, .ref (ad 0 0)), (1, .int (nI 1))] := hl
  have hP : va_P G.1 vwCl (wX G ad σ T o n f x len) st.heap := hP
  have hD : va_D (zA (wX G ad σ T o n f x len)) (wX G ad σ T o n f x len) := hD
  have hinX4 : ∀ w ∈ wsX40, w ∈ wsX4_count := by decide +kernel
  have hf10 := hts (.fieldLink RX4 10 "MapSheets" "now" "LMapSheets$Atlas;") (by decide +kernel)
  have hc := hO.c
  have hs := hO.lS
  have hr := hO.lR
  have hne := hO.lE
  refine lv_iload_n hx hb dX4_count_0 rfl (lv_at hl 1 rfl) ?_
  refine lv_tableIn (off := 83) (tgt := 84) hx hb dX4_count_1 (by decide) (by decide) (by decide) (by decide) ?_
  refine lv_aload_n hx hb dX4_count_84 rfl (lv_at hl 0 rfl) ?_
  refine va_get (D := G.1) (ci := 4) (v := .ref (ad 1 0)) (C := RX4) (T := TX4) (N := 4) hx hb hts hinX4 hown hG.1 hP 0 rfl rfl 0 (by decide) hf10 (fun _ h9 => h9) rfl dX4_count_85 ?_
  refine zrdV (As := []) ⟨hx, hb, hml, hown, hts⟩ (kX0_rowCount l G (ad 1) σ ) (cwV 0 hts gX4_count_X0_rowCount rfl rfl rfl (by decide +kernel) ⟨Nat.le_of_ble_eq_true rfl, Nat.le_of_ble_eq_true rfl⟩) hG (va_recv (q0 := 0) (ci := 0) hG.1 (wX_pA hP) rfl rfl) ((wX_pA hP)) rfl rfl hl.1 dX4_count_88 (Nat.le_of_ble_eq_true rfl) ⟨Nat.le_of_ble_eq_true rfl, Nat.le_of_ble_eq_true rfl⟩ ?_
  exact hret _ _ _ _ _ dX4_count_91 hS (hP) (congrArg nI (rfl))
set_option maxHeartbeats 4000000 in
set_option maxRecDepth 100000 in
theorem kX4_count_2 (l : Launch) (G : zG) (ad : Nat → Nat → Nat) (σ : Nat → Nat) (T : Nat → Nat → Nat) (o n : Nat) (f : Nat → Int32) (x : Nat → Nat) (len : Nat) {N : Nat}  (hO : Ok N σ) (ho : o < 5) (hn : n ≤ 4) (hd : va_D (fun _ => True) (wX G ad σ T o n f x len)) : Met l yX4_count wsX4_count (zRm 6 134) (zPc G [.ref (ad 0 0), .int (nI 2)] (va_P G.1 vwCl (wX G ad σ T o n f x len))) (zQ (zA (wX G ad σ T o n f x len)) (some (.int (nI (nS σ)))) (va_P G.1 vwCl (wX G ad σ T o n f x len))) 0 0 (zA (wX G ad σ T o n f x len)) := by
  refine zmkWi (w := (wX G ad σ T o n f x len)) hd (cc := cX4_count) (maxL := 2) (by decide) rfl (Nat.le_of_ble_eq_true rfl) ?_
  intro pr en st mi ar bl me cd ls Q hx hb hml hown hts hG hP hl hD hS hret
  have hown : st.vm.findClass RX4 = some mi.cls := hown
  have hl : lv_has ls 2 [(0, .ref (ad 0 0)), (1, .int (nI 2))] := hl
  have hP : va_P G.1 vwCl (wX G ad σ T o n f x len) st.heap := hP
  have hD : va_D (zA (wX G ad σ T o n f x len)) (wX G ad σ T o n f x len) := hD
  have hinX4 : ∀ w ∈ wsX40, w ∈ wsX4_count := by decide +kernel
  have hf10 := hts (.fieldLink RX4 10 "MapSheets" "now" "LMapSheets$Atlas;") (by decide +kernel)
  have hc := hO.c
  have hs := hO.lS
  have hr := hO.lR
  have hne := hO.lE
  refine lv_iload_n hx hb dX4_count_0 rfl (lv_at hl 1 rfl) ?_
  refine lv_tableIn (off := 91) (tgt := 92) hx hb dX4_count_1 (by decide) (by decide) (by decide) (by decide) ?_
  refine lv_aload_n hx hb dX4_count_92 rfl (lv_at hl 0 rfl) ?_
  refine va_get (D := G.1) (ci := 4) (v := .ref (ad 1 0)) (C := RX4) (T := TX4) (N := 4) hx hb hts hinX4 hown hG.1 hP 0 rfl rfl 0 (by decide) hf10 (fun _ h9 => h9) rfl dX4_count_93 ?_
  refine zrdV (As := []) ⟨hx, hb, hml, hown, hts⟩ (kX0_sheetCount l G (ad 1) σ ) (cwV 0 hts gX4_count_X0_sheetCount rfl rfl rfl (by decide +kernel) ⟨Nat.le_of_ble_eq_true rfl, Nat.le_of_ble_eq_true rfl⟩) hG (va_recv (q0 := 0) (ci := 0) hG.1 (wX_pA hP) rfl rfl) ((wX_pA hP)) rfl rfl hl.1 dX4_count_96 (Nat.le_of_ble_eq_true rfl) ⟨Nat.le_of_ble_eq_true rfl, Nat.le_of_ble_eq_true rfl⟩ ?_
  exact hret _ _ _ _ _ dX4_count_99 hS (hP) (congrArg nI (rfl))
set_option maxHeartbeats 4000000 in
set_option maxRecDepth 100000 in
theorem kX4_count_3 (l : Launch) (G : zG) (ad : Nat → Nat → Nat) (σ : Nat → Nat) (T : Nat → Nat → Nat) (o n : Nat) (f : Nat → Int32) (x : Nat → Nat) (len : Nat) {N : Nat}  (hO : Ok N σ) (ho : o < 5) (hn : n ≤ 4) (hd : va_D (fun _ => True) (wX G ad σ T o n f x len)) : Met l yX4_count wsX4_count (zRm 6 134) (zPc G [.ref (ad 0 0), .int (nI 3)] (va_P G.1 vwCl (wX G ad σ T o n f x len))) (zQ (zA (wX G ad σ T o n f x len)) (some (.int (nI (nE σ)))) (va_P G.1 vwCl (wX G ad σ T o n f x len))) 0 0 (zA (wX G ad σ T o n f x len)) := by
  refine zmkWi (w := (wX G ad σ T o n f x len)) hd (cc := cX4_count) (maxL := 2) (by decide) rfl (Nat.le_of_ble_eq_true rfl) ?_
  intro pr en st mi ar bl me cd ls Q hx hb hml hown hts hG hP hl hD hS hret
  have hown : st.vm.findClass RX4 = some mi.cls := hown
  have hl : lv_has ls 2 [(0, .ref (ad 0 0)), (1, .int (nI 3))] := hl
  have hP : va_P G.1 vwCl (wX G ad σ T o n f x len) st.heap := hP
  have hD : va_D (zA (wX G ad σ T o n f x len)) (wX G ad σ T o n f x len) := hD
  have hinX4 : ∀ w ∈ wsX40, w ∈ wsX4_count := by decide +kernel
  have hf10 := hts (.fieldLink RX4 10 "MapSheets" "now" "LMapSheets$Atlas;") (by decide +kernel)
  have hc := hO.c
  have hs := hO.lS
  have hr := hO.lR
  have hne := hO.lE
  refine lv_iload_n hx hb dX4_count_0 rfl (lv_at hl 1 rfl) ?_
  refine lv_tableIn (off := 99) (tgt := 100) hx hb dX4_count_1 (by decide) (by decide) (by decide) (by decide) ?_
  refine lv_aload_n hx hb dX4_count_100 rfl (lv_at hl 0 rfl) ?_
  refine va_get (D := G.1) (ci := 4) (v := .ref (ad 1 0)) (C := RX4) (T := TX4) (N := 4) hx hb hts hinX4 hown hG.1 hP 0 rfl rfl 0 (by decide) hf10 (fun _ h9 => h9) rfl dX4_count_101 ?_
  refine zrdV (As := []) ⟨hx, hb, hml, hown, hts⟩ (kX0_edgeCount l G (ad 1) σ (hO)) (cwV 0 hts gX4_count_X0_edgeCount rfl rfl rfl (by decide +kernel) ⟨Nat.le_of_ble_eq_true rfl, Nat.le_of_ble_eq_true rfl⟩) hG (va_recv (q0 := 0) (ci := 0) hG.1 (wX_pA hP) rfl rfl) ((wX_pA hP)) rfl rfl hl.1 dX4_count_104 (Nat.le_of_ble_eq_true rfl) ⟨Nat.le_of_ble_eq_true rfl, Nat.le_of_ble_eq_true rfl⟩ ?_
  exact hret _ _ _ _ _ dX4_count_107 hS (hP) (congrArg nI (rfl))
set_option maxHeartbeats 4000000 in
set_option maxRecDepth 100000 in
theorem kX4_count_4 (l : Launch) (G : zG) (ad : Nat → Nat → Nat) (σ : Nat → Nat) (T : Nat → Nat → Nat) (o n : Nat) (f : Nat → Int32) (x : Nat → Nat) (len : Nat) {N : Nat}  (hO : Ok N σ) (ho : o < 5) (hn : n ≤ 4) (hd : va_D (fun _ => True) (wX G ad σ T o n f x len)) : Met l yX4_count wsX4_count (zRm 6 134) (zPc G [.ref (ad 0 0), .int (nI 4)] (va_P G.1 vwCl (wX G ad σ T o n f x len))) (zQ (zA (wX G ad σ T o n f x len)) (some (.int (nI (agA σ)))) (va_P G.1 vwCl (wX G ad σ T o n f x len))) 0 0 (zA (wX G ad σ T o n f x len)) := by
  refine zmkWi (w := (wX G ad σ T o n f x len)) hd (cc := cX4_count) (maxL := 2) (by decide) rfl (Nat.le_of_ble_eq_true rfl) ?_
  intro pr en st mi ar bl me cd ls Q hx hb hml hown hts hG hP hl hD hS hret
  have hown : st.vm.findClass RX4 = some mi.cls := hown
  have hl : lv_has ls 2 [(0, .ref (ad 0 0)), (1, .int (nI 4))] := hl
  have hP : va_P G.1 vwCl (wX G ad σ T o n f x len) st.heap := hP
  have hD : va_D (zA (wX G ad σ T o n f x len)) (wX G ad σ T o n f x len) := hD
  have hinX4 : ∀ w ∈ wsX40, w ∈ wsX4_count := by decide +kernel
  have hf10 := hts (.fieldLink RX4 10 "MapSheets" "now" "LMapSheets$Atlas;") (by decide +kernel)
  have hc := hO.c
  have hs := hO.lS
  have hr := hO.lR
  have hne := hO.lE
  refine lv_iload_n hx hb dX4_count_0 rfl (lv_at hl 1 rfl) ?_
  refine lv_tableIn (off := 107) (tgt := 108) hx hb dX4_count_1 (by decide) (by decide) (by decide) (by decide) ?_
  refine lv_aload_n hx hb dX4_count_108 rfl (lv_at hl 0 rfl) ?_
  refine va_get (D := G.1) (ci := 4) (v := .ref (ad 1 0)) (C := RX4) (T := TX4) (N := 4) hx hb hts hinX4 hown hG.1 hP 0 rfl rfl 0 (by decide) hf10 (fun _ h9 => h9) rfl dX4_count_109 ?_
  refine zrdV (As := []) ⟨hx, hb, hml, hown, hts⟩ (kX0_agreedEdges l G (ad 1) σ (hO)) (cwV 0 hts gX4_count_X0_agreedEdges rfl rfl rfl (by decide +kernel) ⟨Nat.le_of_ble_eq_true rfl, Nat.le_of_ble_eq_true rfl⟩) hG (va_recv (q0 := 0) (ci := 0) hG.1 (wX_pA hP) rfl rfl) ((wX_pA hP)) rfl rfl hl.1 dX4_count_112 (Nat.le_of_ble_eq_true rfl) ⟨Nat.le_of_ble_eq_true rfl, Nat.le_of_ble_eq_true rfl⟩ ?_
  exact hret _ _ _ _ _ dX4_count_115 hS (hP) (congrArg nI (rfl))
set_option maxHeartbeats 4000000 in
set_option maxRecDepth 100000 in
theorem kX4_count_5 (l : Launch) (G : zG) (ad : Nat → Nat → Nat) (σ : Nat → Nat) (T : Nat → Nat → Nat) (o n : Nat) (f : Nat → Int32) (x : Nat → Nat) (len : Nat) {N : Nat}  (hO : Ok N σ) (ho : o < 5) (hn : n ≤ 4) (hd : va_D (fun _ => True) (wX G ad σ T o n f x len)) : Met l yX4_count wsX4_count (zRm 6 134) (zPc G [.ref (ad 0 0), .int (nI 5)] (va_P G.1 vwCl (wX G ad σ T o n f x len))) (zQ (zA (wX G ad σ T o n f x len)) (some (.int (nI (cln σ)))) (va_P G.1 vwCl (wX G ad σ T o n f x len))) 0 0 (zA (wX G ad σ T o n f x len)) := by
  refine zmkWi (w := (wX G ad σ T o n f x len)) hd (cc := cX4_count) (maxL := 2) (by decide) rfl (Nat.le_of_ble_eq_true rfl) ?_
  intro pr en st mi ar bl me cd ls Q hx hb hml hown hts hG hP hl hD hS hret
  have hown : st.vm.findClass RX4 = some mi.cls := hown
  have hl : lv_has ls 2 [(0, .ref (ad 0 0)), (1, .int (nI 5))] := hl
  have hP : va_P G.1 vwCl (wX G ad σ T o n f x len) st.heap := hP
  have hD : va_D (zA (wX G ad σ T o n f x len)) (wX G ad σ T o n f x len) := hD
  have hinX4 : ∀ w ∈ wsX40, w ∈ wsX4_count := by decide +kernel
  have hf10 := hts (.fieldLink RX4 10 "MapSheets" "now" "LMapSheets$Atlas;") (by decide +kernel)
  have hc := hO.c
  have hs := hO.lS
  have hr := hO.lR
  have hne := hO.lE
  refine lv_iload_n hx hb dX4_count_0 rfl (lv_at hl 1 rfl) ?_
  refine lv_tableIn (off := 115) (tgt := 116) hx hb dX4_count_1 (by decide) (by decide) (by decide) (by decide) ?_
  refine lv_aload_n hx hb dX4_count_116 rfl (lv_at hl 0 rfl) ?_
  refine va_get (D := G.1) (ci := 4) (v := .ref (ad 1 0)) (C := RX4) (T := TX4) (N := 4) hx hb hts hinX4 hown hG.1 hP 0 rfl rfl 0 (by decide) hf10 (fun _ h9 => h9) rfl dX4_count_117 ?_
  refine zrdV (As := []) ⟨hx, hb, hml, hown, hts⟩ (kX0_cleanEdges l G (ad 1) σ (hO)) (cwV 0 hts gX4_count_X0_cleanEdges rfl rfl rfl (by decide +kernel) ⟨Nat.le_of_ble_eq_true rfl, Nat.le_of_ble_eq_true rfl⟩) hG (va_recv (q0 := 0) (ci := 0) hG.1 (wX_pA hP) rfl rfl) ((wX_pA hP)) rfl rfl hl.1 dX4_count_120 (Nat.le_of_ble_eq_true rfl) ⟨Nat.le_of_ble_eq_true rfl, Nat.le_of_ble_eq_true rfl⟩ ?_
  exact hret _ _ _ _ _ dX4_count_123 hS (hP) (congrArg nI (rfl))
set_option maxHeartbeats 4000000 in
set_option maxRecDepth 100000 in
theorem kX4_count_6 (l : Launch) (G : zG) (ad : Nat → Nat → Nat) (σ : Nat → Nat) (T : Nat → Nat → Nat) (o n : Nat) (f : Nat → Int32) (x : Nat → Nat) (len : Nat) {N : Nat}  (hO : Ok N σ) (ho : o < 5) (hn : n ≤ 4) (hd : va_D (fun _ => True) (wX G ad σ T o n f x len)) : Met l yX4_count wsX4_count (zRm 6 134) (zPc G [.ref (ad 0 0), .int (nI 6)] (va_P G.1 vwCl (wX G ad σ T o n f x len))) (zQ (zA (wX G ad σ T o n f x len)) (some (.int (nI (qAl σ)))) (va_P G.1 vwCl (wX G ad σ T o n f x len))) 0 0 (zA (wX G ad σ T o n f x len)) := by
  refine zmkWi (w := (wX G ad σ T o n f x len)) hd (cc := cX4_count) (maxL := 2) (by decide) rfl (Nat.le_of_ble_eq_true rfl) ?_
  intro pr en st mi ar bl me cd ls Q hx hb hml hown hts hG hP hl hD hS hret
  have hown : st.vm.findClass RX4 = some mi.cls := hown
  have hl : lv_has ls 2 [(0, .ref (ad 0 0)), (1, .int (nI 6))] := hl
  have hP : va_P G.1 vwCl (wX G ad σ T o n f x len) st.heap := hP
  have hD : va_D (zA (wX G ad σ T o n f x len)) (wX G ad σ T o n f x len) := hD
  have hinX4 : ∀ w ∈ wsX40, w ∈ wsX4_count := by decide +kernel
  have hf10 := hts (.fieldLink RX4 10 "MapSheets" "now" "LMapSheets$Atlas;") (by decide +kernel)
  have hc := hO.c
  have hs := hO.lS
  have hr := hO.lR
  have hne := hO.lE
  refine lv_iload_n hx hb dX4_count_0 rfl (lv_at hl 1 rfl) ?_
  refine lv_tableIn (off := 123) (tgt := 124) hx hb dX4_count_1 (by decide) (by decide) (by decide) (by decide) ?_
  refine lv_aload_n hx hb dX4_count_124 rfl (lv_at hl 0 rfl) ?_
  refine va_get (D := G.1) (ci := 4) (v := .ref (ad 1 0)) (C := RX4) (T := TX4) (N := 4) hx hb hts hinX4 hown hG.1 hP 0 rfl rfl 0 (by decide) hf10 (fun _ h9 => h9) rfl dX4_count_125 ?_
  refine zrdV (As := []) ⟨hx, hb, hml, hown, hts⟩ (kX0_quarrelsOfAll l G (ad 1) σ (hO)) (cwV 0 hts gX4_count_X0_quarrelsOfAll rfl rfl rfl (by decide +kernel) ⟨Nat.le_of_ble_eq_true rfl, Nat.le_of_ble_eq_true rfl⟩) hG (va_recv (q0 := 0) (ci := 0) hG.1 (wX_pA hP) rfl rfl) ((wX_pA hP)) rfl rfl hl.1 dX4_count_128 (Nat.le_of_ble_eq_true rfl) ⟨Nat.le_of_ble_eq_true rfl, Nat.le_of_ble_eq_true rfl⟩ ?_
  exact hret _ _ _ _ _ dX4_count_131 hS (hP) (congrArg nI (rfl))
set_option maxHeartbeats 4000000 in
set_option maxRecDepth 100000 in
theorem kX4_count_7 (l : Launch) (G : zG) (ad : Nat → Nat → Nat) (σ : Nat → Nat) (T : Nat → Nat → Nat) (o n : Nat) (f : Nat → Int32) (x : Nat → Nat) (len : Nat) {N : Nat}  (hO : Ok N σ) (ho : o < 5) (hn : n ≤ 4) (hd : va_D (fun _ => True) (wX G ad σ T o n f x len)) : Met l yX4_count wsX4_count (zRm 6 134) (zPc G [.ref (ad 0 0), .int (nI 7)] (va_P G.1 vwCl (wX G ad σ T o n f x len))) (zQ (zA (wX G ad σ T o n f x len)) (some (.int (nI (fnd σ (nE σ))))) (va_P G.1 vwCl (wX G ad σ T o n (fun k => nI (blk σ (nE σ) k)) x len))) 0 0 (zA (wX G ad σ T o n f x len)) := by
  refine zmkWi (w := (wX G ad σ T o n f x len)) hd (cc := cX4_count) (maxL := 2) (by decide) rfl (Nat.le_of_ble_eq_true rfl) ?_
  intro pr en st mi ar bl me cd ls Q hx hb hml hown hts hG hP hl hD hS hret
  have hown : st.vm.findClass RX4 = some mi.cls := hown
  have hl : lv_has ls 2 [(0, .ref (ad 0 0)), (1, .int (nI 7))] := hl
  have hP : va_P G.1 vwCl (wX G ad σ T o n f x len) st.heap := hP
  have hD : va_D (zA (wX G ad σ T o n f x len)) (wX G ad σ T o n f x len) := hD
  have hinX4 : ∀ w ∈ wsX40, w ∈ wsX4_count := by decide +kernel
  have hf26 := hts (.fieldLink RX4 26 "MapSheets" "blocks" "LMapSheets$Blocks;") (by decide +kernel)
  have hf10 := hts (.fieldLink RX4 10 "MapSheets" "now" "LMapSheets$Atlas;") (by decide +kernel)
  have hc := hO.c
  have hs := hO.lS
  have hr := hO.lR
  have hne := hO.lE
  refine lv_iload_n hx hb dX4_count_0 rfl (lv_at hl 1 rfl) ?_
  refine lv_tableIn (off := 131) (tgt := 132) hx hb dX4_count_1 (by decide) (by decide) (by decide) (by decide) ?_
  refine lv_aload_n hx hb dX4_count_132 rfl (lv_at hl 0 rfl) ?_
  refine va_get (D := G.1) (ci := 4) (v := .ref (ad 3 0)) (C := RX4) (T := TX4) (N := 4) hx hb hts hinX4 hown hG.1 hP 0 rfl rfl 2 (by decide) hf26 (fun _ h9 => h9) rfl dX4_count_133 ?_
  refine lv_aload_n hx hb dX4_count_136 rfl (lv_at hl 0 rfl) ?_
  refine va_get (D := G.1) (ci := 4) (v := .ref (ad 1 0)) (C := RX4) (T := TX4) (N := 4) hx hb hts hinX4 hown hG.1 hP 0 rfl rfl 0 (by decide) hf10 (fun _ h9 => h9) rfl dX4_count_137 ?_
  refine zwrE (G := G) (wc' := (wA G (ad 1) σ ++ wB G (ad 3) (fun k => nI (blk σ (nE σ) k)))) (ws' := (wX G ad σ T o n (fun k => nI (blk σ (nE σ) k)) x len)) (va_runV (As := [.ref (ad 1 0)]) (rest := []) ⟨hx, hb, hml, hown, hts⟩ (kX1_find l G (ad 1) (ad 3) σ f (hO) (zD_any (wX_dAB hD))) (cwV 1 hts gX4_count_X1_find rfl rfl rfl (by decide +kernel) ⟨Nat.le_of_ble_eq_true rfl, Nat.le_of_ble_eq_true rfl⟩) (zPreV hG (va_recv (q0 := 0) (ci := 1) hG.1 (wX_pB hP) rfl rfl) (wX_pAB hP)) rfl rfl hl.1 rfl (lv_room (Nat.le_of_ble_eq_true rfl)) dX4_count_140 ⟨Nat.le_of_ble_eq_true rfl, Nat.le_of_ble_eq_true rfl⟩) (wX_eAB) (wX_eAB) hP hD hS rfl (fun H locs hP hD hS => ?_)
  have hP : va_P G.1 vwCl (wX G ad σ T o n (fun k => nI (blk σ (nE σ) k)) x len) H := hP
  have hD : va_D (zA (wX G ad σ T o n f x len)) (wX G ad σ T o n (fun k => nI (blk σ (nE σ) k)) x len) := hD
  exact hret _ _ _ _ _ dX4_count_143 hS (hP) (congrArg nI (rfl))
set_option maxHeartbeats 4000000 in
set_option maxRecDepth 100000 in
theorem kX4_count_8 (l : Launch) (G : zG) (ad : Nat → Nat → Nat) (σ : Nat → Nat) (T : Nat → Nat → Nat) (o n : Nat) (f : Nat → Int32) (x : Nat → Nat) (len : Nat) {N : Nat}  (hO : Ok N σ) (ho : o < 5) (hn : n ≤ 4) (hd : va_D (fun _ => True) (wX G ad σ T o n f x len)) : Met l yX4_count wsX4_count (zRm 6 134) (zPc G [.ref (ad 0 0), .int (nI 8)] (va_P G.1 vwCl (wX G ad σ T o n f x len))) (zQ (zA (wX G ad σ T o n f x len)) (some (.int (nI (pbS σ)))) (va_P G.1 vwCl (wX G ad σ T o n f x len))) 0 0 (zA (wX G ad σ T o n f x len)) := by
  refine zmkWi (w := (wX G ad σ T o n f x len)) hd (cc := cX4_count) (maxL := 2) (by decide) rfl (Nat.le_of_ble_eq_true rfl) ?_
  intro pr en st mi ar bl me cd ls Q hx hb hml hown hts hG hP hl hD hS hret
  have hown : st.vm.findClass RX4 = some mi.cls := hown
  have hl : lv_has ls 2 [(0, .ref (ad 0 0)), (1, .int (nI 8))] := hl
  have hP : va_P G.1 vwCl (wX G ad σ T o n f x len) st.heap := hP
  have hD : va_D (zA (wX G ad σ T o n f x len)) (wX G ad σ T o n f x len) := hD
  have hinX4 : ∀ w ∈ wsX40, w ∈ wsX4_count := by decide +kernel
  have hf10 := hts (.fieldLink RX4 10 "MapSheets" "now" "LMapSheets$Atlas;") (by decide +kernel)
  have hc := hO.c
  have hs := hO.lS
  have hr := hO.lR
  have hne := hO.lE
  refine lv_iload_n hx hb dX4_count_0 rfl (lv_at hl 1 rfl) ?_
  refine lv_tableIn (off := 143) (tgt := 144) hx hb dX4_count_1 (by decide) (by decide) (by decide) (by decide) ?_
  refine lv_aload_n hx hb dX4_count_144 rfl (lv_at hl 0 rfl) ?_
  refine va_get (D := G.1) (ci := 4) (v := .ref (ad 1 0)) (C := RX4) (T := TX4) (N := 4) hx hb hts hinX4 hown hG.1 hP 0 rfl rfl 0 (by decide) hf10 (fun _ h9 => h9) rfl dX4_count_145 ?_
  refine zrdV (As := []) ⟨hx, hb, hml, hown, hts⟩ (kX0_publishedSheets l G (ad 1) σ (hO)) (cwV 0 hts gX4_count_X0_publishedSheets rfl rfl rfl (by decide +kernel) ⟨Nat.le_of_ble_eq_true rfl, Nat.le_of_ble_eq_true rfl⟩) hG (va_recv (q0 := 0) (ci := 0) hG.1 (wX_pA hP) rfl rfl) ((wX_pA hP)) rfl rfl hl.1 dX4_count_148 (Nat.le_of_ble_eq_true rfl) ⟨Nat.le_of_ble_eq_true rfl, Nat.le_of_ble_eq_true rfl⟩ ?_
  exact hret _ _ _ _ _ dX4_count_151 hS (hP) (congrArg nI (rfl))
set_option maxHeartbeats 4000000 in
set_option maxRecDepth 100000 in
theorem kX4_count_9 (l : Launch) (G : zG) (ad : Nat → Nat → Nat) (σ : Nat → Nat) (T : Nat → Nat → Nat) (o n : Nat) (f : Nat → Int32) (x : Nat → Nat) (len : Nat) {N : Nat}  (hO : Ok N σ) (ho : o < 5) (hn : n ≤ 4) (hd : va_D (fun _ => True) (wX G ad σ T o n f x len)) : Met l yX4_count wsX4_count (zRm 6 134) (zPc G [.ref (ad 0 0), .int (nI 9)] (va_P G.1 vwCl (wX G ad σ T o n f x len))) (zQ (zA (wX G ad σ T o n f x len)) (some (.int (nI (upS σ)))) (va_P G.1 vwCl (wX G ad σ T o n f x len))) 0 0 (zA (wX G ad σ T o n f x len)) := by
  refine zmkWi (w := (wX G ad σ T o n f x len)) hd (cc := cX4_count) (maxL := 2) (by decide) rfl (Nat.le_of_ble_eq_true rfl) ?_
  intro pr en st mi ar bl me cd ls Q hx hb hml hown hts hG hP hl hD hS hret
  have hown : st.vm.findClass RX4 = some mi.cls := hown
  have hl : lv_has ls 2 [(0, .ref (ad 0 0)), (1, .int (nI 9))] := hl
  have hP : va_P G.1 vwCl (wX G ad σ T o n f x len) st.heap := hP
  have hD : va_D (zA (wX G ad σ T o n f x len)) (wX G ad σ T o n f x len) := hD
  have hinX4 : ∀ w ∈ wsX40, w ∈ wsX4_count := by decide +kernel
  have hf10 := hts (.fieldLink RX4 10 "MapSheets" "now" "LMapSheets$Atlas;") (by decide +kernel)
  have hc := hO.c
  have hs := hO.lS
  have hr := hO.lR
  have hne := hO.lE
  refine lv_iload_n hx hb dX4_count_0 rfl (lv_at hl 1 rfl) ?_
  refine lv_tableIn (off := 151) (tgt := 152) hx hb dX4_count_1 (by decide) (by decide) (by decide) (by decide) ?_
  refine lv_aload_n hx hb dX4_count_152 rfl (lv_at hl 0 rfl) ?_
  refine va_get (D := G.1) (ci := 4) (v := .ref (ad 1 0)) (C := RX4) (T := TX4) (N := 4) hx hb hts hinX4 hown hG.1 hP 0 rfl rfl 0 (by decide) hf10 (fun _ h9 => h9) rfl dX4_count_153 ?_
  refine zrdV (As := []) ⟨hx, hb, hml, hown, hts⟩ (kX0_sheetsUpToDate l G (ad 1) σ (hO)) (cwV 0 hts gX4_count_X0_sheetsUpToDate rfl rfl rfl (by decide +kernel) ⟨Nat.le_of_ble_eq_true rfl, Nat.le_of_ble_eq_true rfl⟩) hG (va_recv (q0 := 0) (ci := 0) hG.1 (wX_pA hP) rfl rfl) ((wX_pA hP)) rfl rfl hl.1 dX4_count_156 (Nat.le_of_ble_eq_true rfl) ⟨Nat.le_of_ble_eq_true rfl, Nat.le_of_ble_eq_true rfl⟩ ?_
  exact hret _ _ _ _ _ dX4_count_159 hS (hP) (congrArg nI (rfl))
set_option maxHeartbeats 4000000 in
set_option maxRecDepth 100000 in
theorem kX4_count_11 (l : Launch) (G : zG) (ad : Nat → Nat → Nat) (σ : Nat → Nat) (T : Nat → Nat → Nat) (o n : Nat) (f : Nat → Int32) (x : Nat → Nat) (len : Nat) {N : Nat}  (hO : Ok N σ) (ho : o < 5) (hn : n ≤ 4) (hd : va_D (fun _ => True) (wX G ad σ T o n f x len)) : Met l yX4_count wsX4_count (zRm 6 134) (zPc G [.ref (ad 0 0), .int (nI 11)] (va_P G.1 vwCl (wX G ad σ T o n f x len))) (zQ (zA (wX G ad σ T o n f x len)) (some (.int (nI (n)))) (va_P G.1 vwCl (wX G ad σ T o n f x len))) 0 0 (zA (wX G ad σ T o n f x len)) := by
  refine zmkWi (w := (wX G ad σ T o n f x len)) hd (cc := cX4_count) (maxL := 2) (by decide) rfl (Nat.le_of_ble_eq_true rfl) ?_
  intro pr en st mi ar bl me cd ls Q hx hb hml hown hts hG hP hl hD hS hret
  have hown : st.vm.findClass RX4 = some mi.cls := hown
  have hl : lv_has ls 2 [(0, .ref (ad 0 0)), (1, .int (nI 11))] := hl
  have hP : va_P G.1 vwCl (wX G ad σ T o n f x len) st.heap := hP
  have hD : va_D (zA (wX G ad σ T o n f x len)) (wX G ad σ T o n f x len) := hD
  have hinX4 : ∀ w ∈ wsX40, w ∈ wsX4_count := by decide +kernel
  have hf19 := hts (.fieldLink RX4 19 "MapSheets" "history" "LMapSheets$History;") (by decide +kernel)
  have hc := hO.c
  have hs := hO.lS
  have hr := hO.lR
  have hne := hO.lE
  refine lv_iload_n hx hb dX4_count_0 rfl (lv_at hl 1 rfl) ?_
  refine lv_tableIn (off := 167) (tgt := 168) hx hb dX4_count_1 (by decide) (by decide) (by decide) (by decide) ?_
  refine lv_aload_n hx hb dX4_count_168 rfl (lv_at hl 0 rfl) ?_
  refine va_get (D := G.1) (ci := 4) (v := .ref (ad 2 0)) (C := RX4) (T := TX4) (N := 4) hx hb hts hinX4 hown hG.1 hP 0 rfl rfl 1 (by decide) hf19 (fun _ h9 => h9) rfl dX4_count_169 ?_
  refine zrdV (As := []) ⟨hx, hb, hml, hown, hts⟩ (kX2_stateCount l G (ad 2) (aH ad) o n ) (cwV 0 hts gX4_count_X2_stateCount rfl rfl rfl (by decide +kernel) ⟨Nat.le_of_ble_eq_true rfl, Nat.le_of_ble_eq_true rfl⟩) hG (va_recv (q0 := 0) (ci := 2) hG.1 (wX_pH hP) rfl rfl) (wX_pH hP) rfl rfl hl.1 dX4_count_172 (Nat.le_of_ble_eq_true rfl) ⟨Nat.le_of_ble_eq_true rfl, Nat.le_of_ble_eq_true rfl⟩ ?_
  exact hret _ _ _ _ _ dX4_count_175 hS (hP) (congrArg nI (rfl))
set_option maxHeartbeats 4000000 in
set_option maxRecDepth 100000 in
theorem kX4_count_12 (l : Launch) (G : zG) (ad : Nat → Nat → Nat) (σ : Nat → Nat) (T : Nat → Nat → Nat) (o n : Nat) (f : Nat → Int32) (x : Nat → Nat) (len : Nat) {N : Nat}  (hO : Ok N σ) (ho : o < 5) (hn : n ≤ 4) (hd : va_D (fun _ => True) (wX G ad σ T o n f x len)) : Met l yX4_count wsX4_count (zRm 6 134) (zPc G [.ref (ad 0 0), .int (nI 12)] (va_P G.1 vwCl (wX G ad σ T o n f x len))) (zQ (zA (wX G ad σ T o n f x len)) (some (.int (nI (len)))) (va_P G.1 vwCl (wX G ad σ T o n f x len))) 0 0 (zA (wX G ad σ T o n f x len)) := by
  refine zmkWi (w := (wX G ad σ T o n f x len)) hd (cc := cX4_count) (maxL := 2) (by decide) rfl (Nat.le_of_ble_eq_true rfl) ?_
  intro pr en st mi ar bl me cd ls Q hx hb hml hown hts hG hP hl hD hS hret
  have hown : st.vm.findClass RX4 = some mi.cls := hown
  have hl : lv_has ls 2 [(0, .ref (ad 0 0)), (1, .int (nI 12))] := hl
  have hP : va_P G.1 vwCl (wX G ad σ T o n f x len) st.heap := hP
  have hD : va_D (zA (wX G ad σ T o n f x len)) (wX G ad σ T o n f x len) := hD
  have hinX4 : ∀ w ∈ wsX40, w ∈ wsX4_count := by decide +kernel
  have hf33 := hts (.fieldLink RX4 33 "MapSheets" "text" "LMapSheets$SignText;") (by decide +kernel)
  have hc := hO.c
  have hs := hO.lS
  have hr := hO.lR
  have hne := hO.lE
  refine lv_iload_n hx hb dX4_count_0 rfl (lv_at hl 1 rfl) ?_
  refine lv_tableIn (off := 175) (tgt := 176) hx hb dX4_count_1 (by decide) (by decide) (by decide) (by decide) ?_
  refine lv_aload_n hx hb dX4_count_176 rfl (lv_at hl 0 rfl) ?_
  refine va_get (D := G.1) (ci := 4) (v := .ref (ad 4 0)) (C := RX4) (T := TX4) (N := 4) hx hb hts hinX4 hown hG.1 hP 0 rfl rfl 3 (by decide) hf33 (fun _ h9 => h9) rfl dX4_count_177 ?_
  refine zrdV (As := []) ⟨hx, hb, hml, hown, hts⟩ (kX3_characterCount l G (ad 4) x len ) (cwV 0 hts gX4_count_X3_characterCount rfl rfl rfl (by decide +kernel) ⟨Nat.le_of_ble_eq_true rfl, Nat.le_of_ble_eq_true rfl⟩) hG (va_recv (q0 := 0) (ci := 3) hG.1 (wX_pT hP) rfl rfl) (wX_pT hP) rfl rfl hl.1 dX4_count_180 (Nat.le_of_ble_eq_true rfl) ⟨Nat.le_of_ble_eq_true rfl, Nat.le_of_ble_eq_true rfl⟩ ?_
  exact hret _ _ _ _ _ dX4_count_183 hS (hP) (congrArg nI (rfl))
set_option maxHeartbeats 4000000 in
set_option maxRecDepth 100000 in
theorem kX4_count_13 (l : Launch) (G : zG) (ad : Nat → Nat → Nat) (σ : Nat → Nat) (T : Nat → Nat → Nat) (o n : Nat) (f : Nat → Int32) (x : Nat → Nat) (len : Nat) {N : Nat}  (hO : Ok N σ) (ho : o < 5) (hn : n ≤ 4) (hd : va_D (fun _ => True) (wX G ad σ T o n f x len)) : Met l yX4_count wsX4_count (zRm 6 134) (zPc G [.ref (ad 0 0), .int (nI 13)] (va_P G.1 vwCl (wX G ad σ T o n f x len))) (zQ (zA (wX G ad σ T o n f x len)) (some (.int (nI (σ 2)))) (va_P G.1 vwCl (wX G ad σ T o n f x len))) 0 0 (zA (wX G ad σ T o n f x len)) := by
  refine zmkWi (w := (wX G ad σ T o n f x len)) hd (cc := cX4_count) (maxL := 2) (by decide) rfl (Nat.le_of_ble_eq_true rfl) ?_
  intro pr en st mi ar bl me cd ls Q hx hb hml hown hts hG hP hl hD hS hret
  have hown : st.vm.findClass RX4 = some mi.cls := hown
  have hl : lv_has ls 2 [(0, .ref (ad 0 0)), (1, .int (nI 13))] := hl
  have hP : va_P G.1 vwCl (wX G ad σ T o n f x len) st.heap := hP
  have hD : va_D (zA (wX G ad σ T o n f x len)) (wX G ad σ T o n f x len) := hD
  have hinX4 : ∀ w ∈ wsX40, w ∈ wsX4_count := by decide +kernel
  have hf10 := hts (.fieldLink RX4 10 "MapSheets" "now" "LMapSheets$Atlas;") (by decide +kernel)
  have hc := hO.c
  have hs := hO.lS
  have hr := hO.lR
  have hne := hO.lE
  refine lv_iload_n hx hb dX4_count_0 rfl (lv_at hl 1 rfl) ?_
  refine lv_tableIn (off := 183) (tgt := 184) hx hb dX4_count_1 (by decide) (by decide) (by decide) (by decide) ?_
  refine lv_aload_n hx hb dX4_count_184 rfl (lv_at hl 0 rfl) ?_
  refine va_get (D := G.1) (ci := 4) (v := .ref (ad 1 0)) (C := RX4) (T := TX4) (N := 4) hx hb hts hinX4 hown hG.1 hP 0 rfl rfl 0 (by decide) hf10 (fun _ h9 => h9) rfl dX4_count_185 ?_
  refine zrdV (As := []) ⟨hx, hb, hml, hown, hts⟩ (kX0_guardValue l G (ad 1) σ ) (cwV 0 hts gX4_count_X0_guardValue rfl rfl rfl (by decide +kernel) ⟨Nat.le_of_ble_eq_true rfl, Nat.le_of_ble_eq_true rfl⟩) hG (va_recv (q0 := 0) (ci := 0) hG.1 (wX_pA hP) rfl rfl) ((wX_pA hP)) rfl rfl hl.1 dX4_count_188 (Nat.le_of_ble_eq_true rfl) ⟨Nat.le_of_ble_eq_true rfl, Nat.le_of_ble_eq_true rfl⟩ ?_
  exact hret _ _ _ _ _ dX4_count_191 hS (hP) (congrArg nI (rfl))
set_option maxHeartbeats 4000000 in
set_option maxRecDepth 100000 in
theorem kX4_count_14 (l : Launch) (G : zG) (ad : Nat → Nat → Nat) (σ : Nat → Nat) (T : Nat → Nat → Nat) (o n : Nat) (f : Nat → Int32) (x : Nat → Nat) (len : Nat) {N : Nat}  (hO : Ok N σ) (ho : o < 5) (hn : n ≤ 4) (hd : va_D (fun _ => True) (wX G ad σ T o n f x len)) : Met l yX4_count wsX4_count (zRm 6 134) (zPc G [.ref (ad 0 0), .int (nI 14)] (va_P G.1 vwCl (wX G ad σ T o n f x len))) (zQ (zA (wX G ad σ T o n f x len)) (some (.int (nI (σ 3)))) (va_P G.1 vwCl (wX G ad σ T o n f x len))) 0 0 (zA (wX G ad σ T o n f x len)) := by
  refine zmkWi (w := (wX G ad σ T o n f x len)) hd (cc := cX4_count) (maxL := 2) (by decide) rfl (Nat.le_of_ble_eq_true rfl) ?_
  intro pr en st mi ar bl me cd ls Q hx hb hml hown hts hG hP hl hD hS hret
  have hown : st.vm.findClass RX4 = some mi.cls := hown
  have hl : lv_has ls 2 [(0, .ref (ad 0 0)), (1, .int (nI 14))] := hl
  have hP : va_P G.1 vwCl (wX G ad σ T o n f x len) st.heap := hP
  have hD : va_D (zA (wX G ad σ T o n f x len)) (wX G ad σ T o n f x len) := hD
  have hinX4 : ∀ w ∈ wsX40, w ∈ wsX4_count := by decide +kernel
  have hf10 := hts (.fieldLink RX4 10 "MapSheets" "now" "LMapSheets$Atlas;") (by decide +kernel)
  have hc := hO.c
  have hs := hO.lS
  have hr := hO.lR
  have hne := hO.lE
  refine lv_iload_n hx hb dX4_count_0 rfl (lv_at hl 1 rfl) ?_
  refine lv_tableIn (off := 191) (tgt := 192) hx hb dX4_count_1 (by decide) (by decide) (by decide) (by decide) ?_
  refine lv_aload_n hx hb dX4_count_192 rfl (lv_at hl 0 rfl) ?_
  refine va_get (D := G.1) (ci := 4) (v := .ref (ad 1 0)) (C := RX4) (T := TX4) (N := 4) hx hb hts hinX4 hown hG.1 hP 0 rfl rfl 0 (by decide) hf10 (fun _ h9 => h9) rfl dX4_count_193 ?_
  refine zrdV (As := []) ⟨hx, hb, hml, hown, hts⟩ (kX0_toleranceValue l G (ad 1) σ ) (cwV 0 hts gX4_count_X0_toleranceValue rfl rfl rfl (by decide +kernel) ⟨Nat.le_of_ble_eq_true rfl, Nat.le_of_ble_eq_true rfl⟩) hG (va_recv (q0 := 0) (ci := 0) hG.1 (wX_pA hP) rfl rfl) ((wX_pA hP)) rfl rfl hl.1 dX4_count_196 (Nat.le_of_ble_eq_true rfl) ⟨Nat.le_of_ble_eq_true rfl, Nat.le_of_ble_eq_true rfl⟩ ?_
  exact hret _ _ _ _ _ dX4_count_199 hS (hP) (congrArg nI (rfl))
set_option maxHeartbeats 4000000 in
set_option maxRecDepth 100000 in
theorem kX4_edge_inv (l : Launch) (G : zG) (ad : Nat → Nat → Nat) (σ : Nat → Nat) (T : Nat → Nat → Nat) (o n : Nat) (f : Nat → Int32) (x : Nat → Nat) (len : Nat) {N : Nat} (x1 : Int32) (x2 : Int32) (hO : Ok N σ) (ho : o < 5) (hn : n ≤ 4) (hv : ¬ (0 ≤ x1 ∧ x1 < nI (nE σ))) (hd : va_D (fun _ => True) (wX G ad σ T o n f x len)) : Met l yX4_edge wsX4_edge (zRm 5 111) (zPc G [.ref (ad 0 0), .int x1, .int x2] (va_P G.1 vwCl (wX G ad σ T o n f x len))) (zQ (zA (wX G ad σ T o n f x len)) (some (.int ((-1)))) (va_P G.1 vwCl (wX G ad σ T o n f x len))) 0 0 (zA (wX G ad σ T o n f x len)) := by
  refine zmkWi (w := (wX G ad σ T o n f x len)) hd (cc := cX4_edge) (maxL := 3) (by decide) rfl (Nat.le_of_ble_eq_true rfl) ?_
  intro pr en st mi ar bl me cd ls Q hx hb hml hown hts hG hP hl hD hS hret
  have hown : st.vm.findClass RX4 = some mi.cls := hown
  have hl : lv_has ls 3 [(0, .ref (ad 0 0)), (1, .int x1), (2, .int x2)] := hl
  have hP : va_P G.1 vwCl (wX G ad σ T o n f x len) st.heap := hP
  have hD : va_D (zA (wX G ad σ T o n f x len)) (wX G ad σ T o n f x len) := hD
  have hinX4 : ∀ w ∈ wsX40, w ∈ wsX4_edge := by decide +kernel
  have hf10 := hts (.fieldLink RX4 10 "MapSheets" "now" "LMapSheets$Atlas;") (by decide +kernel)
  have hc := hO.c
  have hs := hO.lS
  have hr := hO.lR
  have hne := hO.lE
  refine lv_aload_n hx hb dX4_edge_0 rfl (lv_at hl 0 rfl) ?_
  refine va_get (D := G.1) (ci := 4) (v := .ref (ad 1 0)) (C := RX4) (T := TX4) (N := 4) hx hb hts hinX4 hown hG.1 hP 0 rfl rfl 0 (by decide) hf10 (fun _ h9 => h9) rfl dX4_edge_1 ?_
  refine lv_iload_n hx hb dX4_edge_4 rfl (lv_at hl 1 rfl) ?_
  refine zrdV (As := [.int x1]) ⟨hx, hb, hml, hown, hts⟩ (kX0_hasEdge l G (ad 1) σ x1 (hO)) (cwV 1 hts gX4_edge_X0_hasEdge rfl rfl rfl (by decide +kernel) ⟨Nat.le_of_ble_eq_true rfl, Nat.le_of_ble_eq_true rfl⟩) hG (va_recv (q0 := 0) (ci := 0) hG.1 (wX_pA hP) rfl rfl) ((wX_pA hP)) rfl rfl hl.1 dX4_edge_5 (Nat.le_of_ble_eq_true rfl) ⟨Nat.le_of_ble_eq_true rfl, Nat.le_of_ble_eq_true rfl⟩ ?_
  refine lv_if_ne (tgt := 13) hx hb dX4_edge_8 (by decide) (fun h8 => ?_) (fun h8 => ?_)
  · skip
    have h8 : ¬ (¬ (0 ≤ x1 ∧ x1 < nI (nE σ))) := fun q => h8 ((z_b0).mpr q)
    have h8 : 0 ≤ x1 ∧ x1 < nI (nE σ) := Decidable.of_not_not h8
    exact absurd h8 hv
  · skip
    have h8 : ¬ (0 ≤ x1 ∧ x1 < nI (nE σ)) := (z_b0).mp h8
    refine lv_iconst (v := (-1)) hx hb dX4_edge_11 (by decide) ?_
    exact hret _ _ _ _ _ dX4_edge_12 hS (hP) (rfl)
set_option maxHeartbeats 4000000 in
set_option maxRecDepth 100000 in
theorem kX4_edge_what (l : Launch) (G : zG) (ad : Nat → Nat → Nat) (σ : Nat → Nat) (T : Nat → Nat → Nat) (o n : Nat) (f : Nat → Int32) (x : Nat → Nat) (len : Nat) {N : Nat} (e : Nat) (x2 : Int32) (hO : Ok N σ) (ho : o < 5) (hn : n ≤ 4) (he : e < nE σ) (hv : ¬ (nI 0 ≤ x2 ∧ x2 ≤ nI 6)) (hd : va_D (fun _ => True) (wX G ad σ T o n f x len)) : Met l yX4_edge wsX4_edge (zRm 5 111) (zPc G [.ref (ad 0 0), .int (nI e), .int x2] (va_P G.1 vwCl (wX G ad σ T o n f x len))) (zQ (zA (wX G ad σ T o n f x len)) (some (.int ((-1)))) (va_P G.1 vwCl (wX G ad σ T o n f x len))) 0 0 (zA (wX G ad σ T o n f x len)) := by
  refine zmkWi (w := (wX G ad σ T o n f x len)) hd (cc := cX4_edge) (maxL := 3) (by decide) rfl (Nat.le_of_ble_eq_true rfl) ?_
  intro pr en st mi ar bl me cd ls Q hx hb hml hown hts hG hP hl hD hS hret
  have hown : st.vm.findClass RX4 = some mi.cls := hown
  have hl : lv_has ls 3 [(0, .ref (ad 0 0)), (1, .int (nI e)), (2, .int x2)] := hl
  have hP : va_P G.1 vwCl (wX G ad σ T o n f x len) st.heap := hP
  have hD : va_D (zA (wX G ad σ T o n f x len)) (wX G ad σ T o n f x len) := hD
  have hinX4 : ∀ w ∈ wsX40, w ∈ wsX4_edge := by decide +kernel
  have hf10 := hts (.fieldLink RX4 10 "MapSheets" "now" "LMapSheets$Atlas;") (by decide +kernel)
  have hc := hO.c
  have hs := hO.lS
  have hr := hO.lR
  have hne := hO.lE
  have hve : 0 ≤ nI e ∧ nI e < nI (nE σ) := z_in he (by omega)
  refine lv_aload_n hx hb dX4_edge_0 rfl (lv_at hl 0 rfl) ?_
  refine va_get (D := G.1) (ci := 4) (v := .ref (ad 1 0)) (C := RX4) (T := TX4) (N := 4) hx hb hts hinX4 hown hG.1 hP 0 rfl rfl 0 (by decide) hf10 (fun _ h9 => h9) rfl dX4_edge_1 ?_
  refine lv_iload_n hx hb dX4_edge_4 rfl (lv_at hl 1 rfl) ?_
  refine zrdV (As := [.int (nI e)]) ⟨hx, hb, hml, hown, hts⟩ (kX0_hasEdge l G (ad 1) σ (nI e) (hO)) (cwV 1 hts gX4_edge_X0_hasEdge rfl rfl rfl (by decide +kernel) ⟨Nat.le_of_ble_eq_true rfl, Nat.le_of_ble_eq_true rfl⟩) hG (va_recv (q0 := 0) (ci := 0) hG.1 (wX_pA hP) rfl rfl) ((wX_pA hP)) rfl rfl hl.1 dX4_edge_5 (Nat.le_of_ble_eq_true rfl) ⟨Nat.le_of_ble_eq_true rfl, Nat.le_of_ble_eq_true rfl⟩ ?_
  refine lv_if_ne (tgt := 13) hx hb dX4_edge_8 (by decide) (fun h8 => ?_) (fun h8 => ?_)
  · skip
    have h8 : ¬ (¬ (0 ≤ (nI e) ∧ (nI e) < nI (nE σ))) := fun q => h8 ((z_b0).mpr q)
    have h8 : 0 ≤ (nI e) ∧ (nI e) < nI (nE σ) := Decidable.of_not_not h8
    refine lv_iload_n hx hb dX4_edge_13 rfl (lv_at hl 2 rfl) ?_
    refine lv_tableOut (tgt := 135) hx hb dX4_edge_14 (z_out (h := 6) (by decide) hv) (by decide) ?_
    refine lv_iconst (v := (-1)) hx hb dX4_edge_135 (by decide) ?_
    exact hret _ _ _ _ _ dX4_edge_136 hS (hP) (rfl)
  · skip
    have h8 : ¬ (0 ≤ (nI e) ∧ (nI e) < nI (nE σ)) := (z_b0).mp h8
    exact absurd hve h8
set_option maxHeartbeats 4000000 in
set_option maxRecDepth 100000 in
theorem kX4_edge_0 (l : Launch) (G : zG) (ad : Nat → Nat → Nat) (σ : Nat → Nat) (T : Nat → Nat → Nat) (o n : Nat) (f : Nat → Int32) (x : Nat → Nat) (len : Nat) {N : Nat} (e : Nat) (hO : Ok N σ) (ho : o < 5) (hn : n ≤ 4) (he : e < nE σ) (hd : va_D (fun _ => True) (wX G ad σ T o n f x len)) : Met l yX4_edge wsX4_edge (zRm 5 111) (zPc G [.ref (ad 0 0), .int (nI e), .int (nI 0)] (va_P G.1 vwCl (wX G ad σ T o n f x len))) (zQ (zA (wX G ad σ T o n f x len)) (some (.int (nI (fS σ e)))) (va_P G.1 vwCl (wX G ad σ T o n f x len))) 0 0 (zA (wX G ad σ T o n f x len)) := by
  refine zmkWi (w := (wX G ad σ T o n f x len)) hd (cc := cX4_edge) (maxL := 3) (by decide) rfl (Nat.le_of_ble_eq_true rfl) ?_
  intro pr en st mi ar bl me cd ls Q hx hb hml hown hts hG hP hl hD hS hret
  have hown : st.vm.findClass RX4 = some mi.cls := hown
  have hl : lv_has ls 3 [(0, .ref (ad 0 0)), (1, .int (nI e)), (2, .int (nI 0))] := hl
  have hP : va_P G.1 vwCl (wX G ad σ T o n f x len) st.heap := hP
  have hD : va_D (zA (wX G ad σ T o n f x len)) (wX G ad σ T o n f x len) := hD
  have hinX4 : ∀ w ∈ wsX40, w ∈ wsX4_edge := by decide +kernel
  have hf10 := hts (.fieldLink RX4 10 "MapSheets" "now" "LMapSheets$Atlas;") (by decide +kernel)
  have hc := hO.c
  have hs := hO.lS
  have hr := hO.lR
  have hne := hO.lE
  have hve : 0 ≤ nI e ∧ nI e < nI (nE σ) := z_in he (by omega)
  refine lv_aload_n hx hb dX4_edge_0 rfl (lv_at hl 0 rfl) ?_
  refine va_get (D := G.1) (ci := 4) (v := .ref (ad 1 0)) (C := RX4) (T := TX4) (N := 4) hx hb hts hinX4 hown hG.1 hP 0 rfl rfl 0 (by decide) hf10 (fun _ h9 => h9) rfl dX4_edge_1 ?_
  refine lv_iload_n hx hb dX4_edge_4 rfl (lv_at hl 1 rfl) ?_
  refine zrdV (As := [.int (nI e)]) ⟨hx, hb, hml, hown, hts⟩ (kX0_hasEdge l G (ad 1) σ (nI e) (hO)) (cwV 1 hts gX4_edge_X0_hasEdge rfl rfl rfl (by decide +kernel) ⟨Nat.le_of_ble_eq_true rfl, Nat.le_of_ble_eq_true rfl⟩) hG (va_recv (q0 := 0) (ci := 0) hG.1 (wX_pA hP) rfl rfl) ((wX_pA hP)) rfl rfl hl.1 dX4_edge_5 (Nat.le_of_ble_eq_true rfl) ⟨Nat.le_of_ble_eq_true rfl, Nat.le_of_ble_eq_true rfl⟩ ?_
  refine lv_if_ne (tgt := 13) hx hb dX4_edge_8 (by decide) (fun h8 => ?_) (fun h8 => ?_)
  · skip
    have h8 : ¬ (¬ (0 ≤ (nI e) ∧ (nI e) < nI (nE σ))) := fun q => h8 ((z_b0).mpr q)
    have h8 : 0 ≤ (nI e) ∧ (nI e) < nI (nE σ) := Decidable.of_not_not h8
    refine lv_iload_n hx hb dX4_edge_13 rfl (lv_at hl 2 rfl) ?_
    refine lv_tableIn (off := 42) (tgt := 56) hx hb dX4_edge_14 (by decide) (by decide) (by decide) (by decide) ?_
    refine lv_aload_n hx hb dX4_edge_56 rfl (lv_at hl 0 rfl) ?_
    refine va_get (D := G.1) (ci := 4) (v := .ref (ad 1 0)) (C := RX4) (T := TX4) (N := 4) hx hb hts hinX4 hown hG.1 hP 0 rfl rfl 0 (by decide) hf10 (fun _ h9 => h9) rfl dX4_edge_57 ?_
    refine lv_iload_n hx hb dX4_edge_60 rfl (lv_at hl 1 rfl) ?_
    refine zrdV (As := [.int (nI e)]) ⟨hx, hb, hml, hown, hts⟩ (kX0_firstSheet l G (ad 1) σ e (hO) (by omega)) (cwV 1 hts gX4_edge_X0_firstSheet rfl rfl rfl (by decide +kernel) ⟨Nat.le_of_ble_eq_true rfl, Nat.le_of_ble_eq_true rfl⟩) hG (va_recv (q0 := 0) (ci := 0) hG.1 (wX_pA hP) rfl rfl) ((wX_pA hP)) rfl rfl hl.1 dX4_edge_61 (Nat.le_of_ble_eq_true rfl) ⟨Nat.le_of_ble_eq_true rfl, Nat.le_of_ble_eq_true rfl⟩ ?_
    have hf61_0 := hO.lF (show e < nE σ by omega)
    exact hret _ _ _ _ _ dX4_edge_64 hS (hP) (congrArg nI (rfl))
  · skip
    have h8 : ¬ (0 ≤ (nI e) ∧ (nI e) < nI (nE σ)) := (z_b0).mp h8
    exact absurd hve h8
set_option maxHeartbeats 4000000 in
set_option maxRecDepth 100000 in
theorem kX4_edge_1 (l : Launch) (G : zG) (ad : Nat → Nat → Nat) (σ : Nat → Nat) (T : Nat → Nat → Nat) (o n : Nat) (f : Nat → Int32) (x : Nat → Nat) (len : Nat) {N : Nat} (e : Nat) (hO : Ok N σ) (ho : o < 5) (hn : n ≤ 4) (he : e < nE σ) (hd : va_D (fun _ => True) (wX G ad σ T o n f x len)) : Met l yX4_edge wsX4_edge (zRm 5 111) (zPc G [.ref (ad 0 0), .int (nI e), .int (nI 1)] (va_P G.1 vwCl (wX G ad σ T o n f x len))) (zQ (zA (wX G ad σ T o n f x len)) (some (.int (nI (sS σ e)))) (va_P G.1 vwCl (wX G ad σ T o n f x len))) 0 0 (zA (wX G ad σ T o n f x len)) := by
  refine zmkWi (w := (wX G ad σ T o n f x len)) hd (cc := cX4_edge) (maxL := 3) (by decide) rfl (Nat.le_of_ble_eq_true rfl) ?_
  intro pr en st mi ar bl me cd ls Q hx hb hml hown hts hG hP hl hD hS hret
  have hown : st.vm.findClass RX4 = some mi.cls := hown
  have hl : lv_has ls 3 [(0, .ref (ad 0 0)), (1, .int (nI e)), (2, .int (nI 1))] := hl
  have hP : va_P G.1 vwCl (wX G ad σ T o n f x len) st.heap := hP
  have hD : va_D (zA (wX G ad σ T o n f x len)) (wX G ad σ T o n f x len) := hD
  have hinX4 : ∀ w ∈ wsX40, w ∈ wsX4_edge := by decide +kernel
  have hf10 := hts (.fieldLink RX4 10 "MapSheets" "now" "LMapSheets$Atlas;") (by decide +kernel)
  have hc := hO.c
  have hs := hO.lS
  have hr := hO.lR
  have hne := hO.lE
  have hve : 0 ≤ nI e ∧ nI e < nI (nE σ) := z_in he (by omega)
  refine lv_aload_n hx hb dX4_edge_0 rfl (lv_at hl 0 rfl) ?_
  refine va_get (D := G.1) (ci := 4) (v := .ref (ad 1 0)) (C := RX4) (T := TX4) (N := 4) hx hb hts hinX4 hown hG.1 hP 0 rfl rfl 0 (by decide) hf10 (fun _ h9 => h9) rfl dX4_edge_1 ?_
  refine lv_iload_n hx hb dX4_edge_4 rfl (lv_at hl 1 rfl) ?_
  refine zrdV (As := [.int (nI e)]) ⟨hx, hb, hml, hown, hts⟩ (kX0_hasEdge l G (ad 1) σ (nI e) (hO)) (cwV 1 hts gX4_edge_X0_hasEdge rfl rfl rfl (by decide +kernel) ⟨Nat.le_of_ble_eq_true rfl, Nat.le_of_ble_eq_true rfl⟩) hG (va_recv (q0 := 0) (ci := 0) hG.1 (wX_pA hP) rfl rfl) ((wX_pA hP)) rfl rfl hl.1 dX4_edge_5 (Nat.le_of_ble_eq_true rfl) ⟨Nat.le_of_ble_eq_true rfl, Nat.le_of_ble_eq_true rfl⟩ ?_
  refine lv_if_ne (tgt := 13) hx hb dX4_edge_8 (by decide) (fun h8 => ?_) (fun h8 => ?_)
  · skip
    have h8 : ¬ (¬ (0 ≤ (nI e) ∧ (nI e) < nI (nE σ))) := fun q => h8 ((z_b0).mpr q)
    have h8 : 0 ≤ (nI e) ∧ (nI e) < nI (nE σ) := Decidable.of_not_not h8
    refine lv_iload_n hx hb dX4_edge_13 rfl (lv_at hl 2 rfl) ?_
    refine lv_tableIn (off := 51) (tgt := 65) hx hb dX4_edge_14 (by decide) (by decide) (by decide) (by decide) ?_
    refine lv_aload_n hx hb dX4_edge_65 rfl (lv_at hl 0 rfl) ?_
    refine va_get (D := G.1) (ci := 4) (v := .ref (ad 1 0)) (C := RX4) (T := TX4) (N := 4) hx hb hts hinX4 hown hG.1 hP 0 rfl rfl 0 (by decide) hf10 (fun _ h9 => h9) rfl dX4_edge_66 ?_
    refine lv_iload_n hx hb dX4_edge_69 rfl (lv_at hl 1 rfl) ?_
    refine zrdV (As := [.int (nI e)]) ⟨hx, hb, hml, hown, hts⟩ (kX0_secondSheet l G (ad 1) σ e (hO) (by omega)) (cwV 1 hts gX4_edge_X0_secondSheet rfl rfl rfl (by decide +kernel) ⟨Nat.le_of_ble_eq_true rfl, Nat.le_of_ble_eq_true rfl⟩) hG (va_recv (q0 := 0) (ci := 0) hG.1 (wX_pA hP) rfl rfl) ((wX_pA hP)) rfl rfl hl.1 dX4_edge_70 (Nat.le_of_ble_eq_true rfl) ⟨Nat.le_of_ble_eq_true rfl, Nat.le_of_ble_eq_true rfl⟩ ?_
    have hf70_0 := hO.lF (show e < nE σ by omega)
    exact hret _ _ _ _ _ dX4_edge_73 hS (hP) (congrArg nI (rfl))
  · skip
    have h8 : ¬ (0 ≤ (nI e) ∧ (nI e) < nI (nE σ)) := (z_b0).mp h8
    exact absurd hve h8
set_option maxHeartbeats 4000000 in
set_option maxRecDepth 100000 in
theorem kX4_edge_2 (l : Launch) (G : zG) (ad : Nat → Nat → Nat) (σ : Nat → Nat) (T : Nat → Nat → Nat) (o n : Nat) (f : Nat → Int32) (x : Nat → Nat) (len : Nat) {N : Nat} (e : Nat) (hO : Ok N σ) (ho : o < 5) (hn : n ≤ 4) (he : e < nE σ) (hd : va_D (fun _ => True) (wX G ad σ T o n f x len)) : Met l yX4_edge wsX4_edge (zRm 5 111) (zPc G [.ref (ad 0 0), .int (nI e), .int (nI 2)] (va_P G.1 vwCl (wX G ad σ T o n f x len))) (zQ (zA (wX G ad σ T o n f x len)) (some (.int (nI (fD σ e)))) (va_P G.1 vwCl (wX G ad σ T o n f x len))) 0 0 (zA (wX G ad σ T o n f x len)) := by
  refine zmkWi (w := (wX G ad σ T o n f x len)) hd (cc := cX4_edge) (maxL := 3) (by decide) rfl (Nat.le_of_ble_eq_true rfl) ?_
  intro pr en st mi ar bl me cd ls Q hx hb hml hown hts hG hP hl hD hS hret
  have hown : st.vm.findClass RX4 = some mi.cls := hown
  have hl : lv_has ls 3 [(0, .ref (ad 0 0)), (1, .int (nI e)), (2, .int (nI 2))] := hl
  have hP : va_P G.1 vwCl (wX G ad σ T o n f x len) st.heap := hP
  have hD : va_D (zA (wX G ad σ T o n f x len)) (wX G ad σ T o n f x len) := hD
  have hinX4 : ∀ w ∈ wsX40, w ∈ wsX4_edge := by decide +kernel
  have hf10 := hts (.fieldLink RX4 10 "MapSheets" "now" "LMapSheets$Atlas;") (by decide +kernel)
  have hc := hO.c
  have hs := hO.lS
  have hr := hO.lR
  have hne := hO.lE
  have hve : 0 ≤ nI e ∧ nI e < nI (nE σ) := z_in he (by omega)
  refine lv_aload_n hx hb dX4_edge_0 rfl (lv_at hl 0 rfl) ?_
  refine va_get (D := G.1) (ci := 4) (v := .ref (ad 1 0)) (C := RX4) (T := TX4) (N := 4) hx hb hts hinX4 hown hG.1 hP 0 rfl rfl 0 (by decide) hf10 (fun _ h9 => h9) rfl dX4_edge_1 ?_
  refine lv_iload_n hx hb dX4_edge_4 rfl (lv_at hl 1 rfl) ?_
  refine zrdV (As := [.int (nI e)]) ⟨hx, hb, hml, hown, hts⟩ (kX0_hasEdge l G (ad 1) σ (nI e) (hO)) (cwV 1 hts gX4_edge_X0_hasEdge rfl rfl rfl (by decide +kernel) ⟨Nat.le_of_ble_eq_true rfl, Nat.le_of_ble_eq_true rfl⟩) hG (va_recv (q0 := 0) (ci := 0) hG.1 (wX_pA hP) rfl rfl) ((wX_pA hP)) rfl rfl hl.1 dX4_edge_5 (Nat.le_of_ble_eq_true rfl) ⟨Nat.le_of_ble_eq_true rfl, Nat.le_of_ble_eq_true rfl⟩ ?_
  refine lv_if_ne (tgt := 13) hx hb dX4_edge_8 (by decide) (fun h8 => ?_) (fun h8 => ?_)
  · skip
    have h8 : ¬ (¬ (0 ≤ (nI e) ∧ (nI e) < nI (nE σ))) := fun q => h8 ((z_b0).mpr q)
    have h8 : 0 ≤ (nI e) ∧ (nI e) < nI (nE σ) := Decidable.of_not_not h8
    refine lv_iload_n hx hb dX4_edge_13 rfl (lv_at hl 2 rfl) ?_
    refine lv_tableIn (off := 60) (tgt := 74) hx hb dX4_edge_14 (by decide) (by decide) (by decide) (by decide) ?_
    refine lv_aload_n hx hb dX4_edge_74 rfl (lv_at hl 0 rfl) ?_
    refine va_get (D := G.1) (ci := 4) (v := .ref (ad 1 0)) (C := RX4) (T := TX4) (N := 4) hx hb hts hinX4 hown hG.1 hP 0 rfl rfl 0 (by decide) hf10 (fun _ h9 => h9) rfl dX4_edge_75 ?_
    refine lv_iload_n hx hb dX4_edge_78 rfl (lv_at hl 1 rfl) ?_
    refine zrdV (As := [.int (nI e)]) ⟨hx, hb, hml, hown, hts⟩ (kX0_firstSide l G (ad 1) σ e (hO) (by omega)) (cwV 1 hts gX4_edge_X0_firstSide rfl rfl rfl (by decide +kernel) ⟨Nat.le_of_ble_eq_true rfl, Nat.le_of_ble_eq_true rfl⟩) hG (va_recv (q0 := 0) (ci := 0) hG.1 (wX_pA hP) rfl rfl) ((wX_pA hP)) rfl rfl hl.1 dX4_edge_79 (Nat.le_of_ble_eq_true rfl) ⟨Nat.le_of_ble_eq_true rfl, Nat.le_of_ble_eq_true rfl⟩ ?_
    exact hret _ _ _ _ _ dX4_edge_82 hS (hP) (congrArg nI (rfl))
  · skip
    have h8 : ¬ (0 ≤ (nI e) ∧ (nI e) < nI (nE σ)) := (z_b0).mp h8
    exact absurd hve h8
set_option maxHeartbeats 4000000 in
set_option maxRecDepth 100000 in
theorem kX4_edge_3 (l : Launch) (G : zG) (ad : Nat → Nat → Nat) (σ : Nat → Nat) (T : Nat → Nat → Nat) (o n : Nat) (f : Nat → Int32) (x : Nat → Nat) (len : Nat) {N : Nat} (e : Nat) (hO : Ok N σ) (ho : o < 5) (hn : n ≤ 4) (he : e < nE σ) (hd : va_D (fun _ => True) (wX G ad σ T o n f x len)) : Met l yX4_edge wsX4_edge (zRm 5 111) (zPc G [.ref (ad 0 0), .int (nI e), .int (nI 3)] (va_P G.1 vwCl (wX G ad σ T o n f x len))) (zQ (zA (wX G ad σ T o n f x len)) (some (.int (if agn σ e = 1 then nI 1 else nI 0))) (va_P G.1 vwCl (wX G ad σ T o n f x len))) 0 0 (zA (wX G ad σ T o n f x len)) := by
  refine zmkWi (w := (wX G ad σ T o n f x len)) hd (cc := cX4_edge) (maxL := 3) (by decide) rfl (Nat.le_of_ble_eq_true rfl) ?_
  intro pr en st mi ar bl me cd ls Q hx hb hml hown hts hG hP hl hD hS hret
  have hown : st.vm.findClass RX4 = some mi.cls := hown
  have hl : lv_has ls 3 [(0, .ref (ad 0 0)), (1, .int (nI e)), (2, .int (nI 3))] := hl
  have hP : va_P G.1 vwCl (wX G ad σ T o n f x len) st.heap := hP
  have hD : va_D (zA (wX G ad σ T o n f x len)) (wX G ad σ T o n f x len) := hD
  have hinX4 : ∀ w ∈ wsX40, w ∈ wsX4_edge := by decide +kernel
  have hf10 := hts (.fieldLink RX4 10 "MapSheets" "now" "LMapSheets$Atlas;") (by decide +kernel)
  have hc := hO.c
  have hs := hO.lS
  have hr := hO.lR
  have hne := hO.lE
  have hve : 0 ≤ nI e ∧ nI e < nI (nE σ) := z_in he (by omega)
  refine lv_aload_n hx hb dX4_edge_0 rfl (lv_at hl 0 rfl) ?_
  refine va_get (D := G.1) (ci := 4) (v := .ref (ad 1 0)) (C := RX4) (T := TX4) (N := 4) hx hb hts hinX4 hown hG.1 hP 0 rfl rfl 0 (by decide) hf10 (fun _ h9 => h9) rfl dX4_edge_1 ?_
  refine lv_iload_n hx hb dX4_edge_4 rfl (lv_at hl 1 rfl) ?_
  refine zrdV (As := [.int (nI e)]) ⟨hx, hb, hml, hown, hts⟩ (kX0_hasEdge l G (ad 1) σ (nI e) (hO)) (cwV 1 hts gX4_edge_X0_hasEdge rfl rfl rfl (by decide +kernel) ⟨Nat.le_of_ble_eq_true rfl, Nat.le_of_ble_eq_true rfl⟩) hG (va_recv (q0 := 0) (ci := 0) hG.1 (wX_pA hP) rfl rfl) ((wX_pA hP)) rfl rfl hl.1 dX4_edge_5 (Nat.le_of_ble_eq_true rfl) ⟨Nat.le_of_ble_eq_true rfl, Nat.le_of_ble_eq_true rfl⟩ ?_
  refine lv_if_ne (tgt := 13) hx hb dX4_edge_8 (by decide) (fun h8 => ?_) (fun h8 => ?_)
  · skip
    have h8 : ¬ (¬ (0 ≤ (nI e) ∧ (nI e) < nI (nE σ))) := fun q => h8 ((z_b0).mpr q)
    have h8 : 0 ≤ (nI e) ∧ (nI e) < nI (nE σ) := Decidable.of_not_not h8
    refine lv_iload_n hx hb dX4_edge_13 rfl (lv_at hl 2 rfl) ?_
    refine lv_tableIn (off := 69) (tgt := 83) hx hb dX4_edge_14 (by decide) (by decide) (by decide) (by decide) ?_
    refine lv_aload_n hx hb dX4_edge_83 rfl (lv_at hl 0 rfl) ?_
    refine va_get (D := G.1) (ci := 4) (v := .ref (ad 1 0)) (C := RX4) (T := TX4) (N := 4) hx hb hts hinX4 hown hG.1 hP 0 rfl rfl 0 (by decide) hf10 (fun _ h9 => h9) rfl dX4_edge_84 ?_
    refine lv_iload_n hx hb dX4_edge_87 rfl (lv_at hl 1 rfl) ?_
    refine zrdV (As := [.int (nI e)]) ⟨hx, hb, hml, hown, hts⟩ (kX0_isAgreed l G (ad 1) σ e (hO) (by omega)) (cwV 1 hts gX4_edge_X0_isAgreed rfl rfl rfl (by decide +kernel) ⟨Nat.le_of_ble_eq_true rfl, Nat.le_of_ble_eq_true rfl⟩) hG (va_recv (q0 := 0) (ci := 0) hG.1 (wX_pA hP) rfl rfl) ((wX_pA hP)) rfl rfl hl.1 dX4_edge_88 (Nat.le_of_ble_eq_true rfl) ⟨Nat.le_of_ble_eq_true rfl, Nat.le_of_ble_eq_true rfl⟩ ?_
    refine lv_if_eq (tgt := 98) hx hb dX4_edge_91 (by decide) (fun h91 => ?_) (fun h91 => ?_)
    · skip
      have h91 : ¬ (agn σ e = 1) := (z_b0).mp h91
      refine lv_iconst (v := nI 0) hx hb dX4_edge_98 (by decide) ?_
      exact hret _ _ _ _ _ dX4_edge_99 hS (hP) (by rw [if_neg h91])
    · skip
      have h91 : ¬ (¬ (agn σ e = 1)) := fun q => h91 ((z_b0).mpr q)
      have h91 : agn σ e = 1 := Decidable.of_not_not h91
      refine lv_iconst (v := nI 1) hx hb dX4_edge_94 (by decide) ?_
      refine lv_goto (tgt := 99) hx hb dX4_edge_95 (by decide) ?_
      exact hret _ _ _ _ _ dX4_edge_99 hS (hP) (by rw [if_pos h91])
  · skip
    have h8 : ¬ (0 ≤ (nI e) ∧ (nI e) < nI (nE σ)) := (z_b0).mp h8
    exact absurd hve h8
set_option maxHeartbeats 4000000 in
set_option maxRecDepth 100000 in
theorem kX4_edge_4 (l : Launch) (G : zG) (ad : Nat → Nat → Nat) (σ : Nat → Nat) (T : Nat → Nat → Nat) (o n : Nat) (f : Nat → Int32) (x : Nat → Nat) (len : Nat) {N : Nat} (e : Nat) (hO : Ok N σ) (ho : o < 5) (hn : n ≤ 4) (he : e < nE σ) (hd : va_D (fun _ => True) (wX G ad σ T o n f x len)) : Met l yX4_edge wsX4_edge (zRm 5 111) (zPc G [.ref (ad 0 0), .int (nI e), .int (nI 4)] (va_P G.1 vwCl (wX G ad σ T o n f x len))) (zQ (zA (wX G ad σ T o n f x len)) (some (.int (nI (qrl σ e)))) (va_P G.1 vwCl (wX G ad σ T o n f x len))) 0 0 (zA (wX G ad σ T o n f x len)) := by
  refine zmkWi (w := (wX G ad σ T o n f x len)) hd (cc := cX4_edge) (maxL := 3) (by decide) rfl (Nat.le_of_ble_eq_true rfl) ?_
  intro pr en st mi ar bl me cd ls Q hx hb hml hown hts hG hP hl hD hS hret
  have hown : st.vm.findClass RX4 = some mi.cls := hown
  have hl : lv_has ls 3 [(0, .ref (ad 0 0)), (1, .int (nI e)), (2, .int (nI 4))] := hl
  have hP : va_P G.1 vwCl (wX G ad σ T o n f x len) st.heap := hP
  have hD : va_D (zA (wX G ad σ T o n f x len)) (wX G ad σ T o n f x len) := hD
  have hinX4 : ∀ w ∈ wsX40, w ∈ wsX4_edge := by decide +kernel
  have hf10 := hts (.fieldLink RX4 10 "MapSheets" "now" "LMapSheets$Atlas;") (by decide +kernel)
  have hc := hO.c
  have hs := hO.lS
  have hr := hO.lR
  have hne := hO.lE
  have hve : 0 ≤ nI e ∧ nI e < nI (nE σ) := z_in he (by omega)
  refine lv_aload_n hx hb dX4_edge_0 rfl (lv_at hl 0 rfl) ?_
  refine va_get (D := G.1) (ci := 4) (v := .ref (ad 1 0)) (C := RX4) (T := TX4) (N := 4) hx hb hts hinX4 hown hG.1 hP 0 rfl rfl 0 (by decide) hf10 (fun _ h9 => h9) rfl dX4_edge_1 ?_
  refine lv_iload_n hx hb dX4_edge_4 rfl (lv_at hl 1 rfl) ?_
  refine zrdV (As := [.int (nI e)]) ⟨hx, hb, hml, hown, hts⟩ (kX0_hasEdge l G (ad 1) σ (nI e) (hO)) (cwV 1 hts gX4_edge_X0_hasEdge rfl rfl rfl (by decide +kernel) ⟨Nat.le_of_ble_eq_true rfl, Nat.le_of_ble_eq_true rfl⟩) hG (va_recv (q0 := 0) (ci := 0) hG.1 (wX_pA hP) rfl rfl) ((wX_pA hP)) rfl rfl hl.1 dX4_edge_5 (Nat.le_of_ble_eq_true rfl) ⟨Nat.le_of_ble_eq_true rfl, Nat.le_of_ble_eq_true rfl⟩ ?_
  refine lv_if_ne (tgt := 13) hx hb dX4_edge_8 (by decide) (fun h8 => ?_) (fun h8 => ?_)
  · skip
    have h8 : ¬ (¬ (0 ≤ (nI e) ∧ (nI e) < nI (nE σ))) := fun q => h8 ((z_b0).mpr q)
    have h8 : 0 ≤ (nI e) ∧ (nI e) < nI (nE σ) := Decidable.of_not_not h8
    refine lv_iload_n hx hb dX4_edge_13 rfl (lv_at hl 2 rfl) ?_
    refine lv_tableIn (off := 86) (tgt := 100) hx hb dX4_edge_14 (by decide) (by decide) (by decide) (by decide) ?_
    refine lv_aload_n hx hb dX4_edge_100 rfl (lv_at hl 0 rfl) ?_
    refine va_get (D := G.1) (ci := 4) (v := .ref (ad 1 0)) (C := RX4) (T := TX4) (N := 4) hx hb hts hinX4 hown hG.1 hP 0 rfl rfl 0 (by decide) hf10 (fun _ h9 => h9) rfl dX4_edge_101 ?_
    refine lv_iload_n hx hb dX4_edge_104 rfl (lv_at hl 1 rfl) ?_
    refine zrdV (As := [.int (nI e)]) ⟨hx, hb, hml, hown, hts⟩ (kX0_quarrelsOf l G (ad 1) σ e (hO) (by omega)) (cwV 1 hts gX4_edge_X0_quarrelsOf rfl rfl rfl (by decide +kernel) ⟨Nat.le_of_ble_eq_true rfl, Nat.le_of_ble_eq_true rfl⟩) hG (va_recv (q0 := 0) (ci := 0) hG.1 (wX_pA hP) rfl rfl) ((wX_pA hP)) rfl rfl hl.1 dX4_edge_105 (Nat.le_of_ble_eq_true rfl) ⟨Nat.le_of_ble_eq_true rfl, Nat.le_of_ble_eq_true rfl⟩ ?_
    have hf105_0 := qrl_le σ (e)
    exact hret _ _ _ _ _ dX4_edge_108 hS (hP) (congrArg nI (rfl))
  · skip
    have h8 : ¬ (0 ≤ (nI e) ∧ (nI e) < nI (nE σ)) := (z_b0).mp h8
    exact absurd hve h8
set_option maxHeartbeats 4000000 in
set_option maxRecDepth 100000 in
theorem kX4_edge_5 (l : Launch) (G : zG) (ad : Nat → Nat → Nat) (σ : Nat → Nat) (T : Nat → Nat → Nat) (o n : Nat) (f : Nat → Int32) (x : Nat → Nat) (len : Nat) {N : Nat} (e : Nat) (hO : Ok N σ) (ho : o < 5) (hn : n ≤ 4) (he : e < nE σ) (hd : va_D (fun _ => True) (wX G ad σ T o n f x len)) : Met l yX4_edge wsX4_edge (zRm 5 111) (zPc G [.ref (ad 0 0), .int (nI e), .int (nI 5)] (va_P G.1 vwCl (wX G ad σ T o n f x len))) (zQ (zA (wX G ad σ T o n f x len)) (some (.int (nI (crs σ e)))) (va_P G.1 vwCl (wX G ad σ T o n f x len))) 0 0 (zA (wX G ad σ T o n f x len)) := by
  refine zmkWi (w := (wX G ad σ T o n f x len)) hd (cc := cX4_edge) (maxL := 3) (by decide) rfl (Nat.le_of_ble_eq_true rfl) ?_
  intro pr en st mi ar bl me cd ls Q hx hb hml hown hts hG hP hl hD hS hret
  have hown : st.vm.findClass RX4 = some mi.cls := hown
  have hl : lv_has ls 3 [(0, .ref (ad 0 0)), (1, .int (nI e)), (2, .int (nI 5))] := hl
  have hP : va_P G.1 vwCl (wX G ad σ T o n f x len) st.heap := hP
  have hD : va_D (zA (wX G ad σ T o n f x len)) (wX G ad σ T o n f x len) := hD
  have hinX4 : ∀ w ∈ wsX40, w ∈ wsX4_edge := by decide +kernel
  have hf10 := hts (.fieldLink RX4 10 "MapSheets" "now" "LMapSheets$Atlas;") (by decide +kernel)
  have hc := hO.c
  have hs := hO.lS
  have hr := hO.lR
  have hne := hO.lE
  have hve : 0 ≤ nI e ∧ nI e < nI (nE σ) := z_in he (by omega)
  refine lv_aload_n hx hb dX4_edge_0 rfl (lv_at hl 0 rfl) ?_
  refine va_get (D := G.1) (ci := 4) (v := .ref (ad 1 0)) (C := RX4) (T := TX4) (N := 4) hx hb hts hinX4 hown hG.1 hP 0 rfl rfl 0 (by decide) hf10 (fun _ h9 => h9) rfl dX4_edge_1 ?_
  refine lv_iload_n hx hb dX4_edge_4 rfl (lv_at hl 1 rfl) ?_
  refine zrdV (As := [.int (nI e)]) ⟨hx, hb, hml, hown, hts⟩ (kX0_hasEdge l G (ad 1) σ (nI e) (hO)) (cwV 1 hts gX4_edge_X0_hasEdge rfl rfl rfl (by decide +kernel) ⟨Nat.le_of_ble_eq_true rfl, Nat.le_of_ble_eq_true rfl⟩) hG (va_recv (q0 := 0) (ci := 0) hG.1 (wX_pA hP) rfl rfl) ((wX_pA hP)) rfl rfl hl.1 dX4_edge_5 (Nat.le_of_ble_eq_true rfl) ⟨Nat.le_of_ble_eq_true rfl, Nat.le_of_ble_eq_true rfl⟩ ?_
  refine lv_if_ne (tgt := 13) hx hb dX4_edge_8 (by decide) (fun h8 => ?_) (fun h8 => ?_)
  · skip
    have h8 : ¬ (¬ (0 ≤ (nI e) ∧ (nI e) < nI (nE σ))) := fun q => h8 ((z_b0).mpr q)
    have h8 : 0 ≤ (nI e) ∧ (nI e) < nI (nE σ) := Decidable.of_not_not h8
    refine lv_iload_n hx hb dX4_edge_13 rfl (lv_at hl 2 rfl) ?_
    refine lv_tableIn (off := 95) (tgt := 109) hx hb dX4_edge_14 (by decide) (by decide) (by decide) (by decide) ?_
    refine lv_aload_n hx hb dX4_edge_109 rfl (lv_at hl 0 rfl) ?_
    refine va_get (D := G.1) (ci := 4) (v := .ref (ad 1 0)) (C := RX4) (T := TX4) (N := 4) hx hb hts hinX4 hown hG.1 hP 0 rfl rfl 0 (by decide) hf10 (fun _ h9 => h9) rfl dX4_edge_110 ?_
    refine lv_iload_n hx hb dX4_edge_113 rfl (lv_at hl 1 rfl) ?_
    refine zrdV (As := [.int (nI e)]) ⟨hx, hb, hml, hown, hts⟩ (kX0_signsOnBothSides l G (ad 1) σ e (hO) (by omega)) (cwV 1 hts gX4_edge_X0_signsOnBothSides rfl rfl rfl (by decide +kernel) ⟨Nat.le_of_ble_eq_true rfl, Nat.le_of_ble_eq_true rfl⟩) hG (va_recv (q0 := 0) (ci := 0) hG.1 (wX_pA hP) rfl rfl) ((wX_pA hP)) rfl rfl hl.1 dX4_edge_114 (Nat.le_of_ble_eq_true rfl) ⟨Nat.le_of_ble_eq_true rfl, Nat.le_of_ble_eq_true rfl⟩ ?_
    exact hret _ _ _ _ _ dX4_edge_117 hS (hP) (congrArg nI (rfl))
  · skip
    have h8 : ¬ (0 ≤ (nI e) ∧ (nI e) < nI (nE σ)) := (z_b0).mp h8
    exact absurd hve h8
set_option maxHeartbeats 4000000 in
set_option maxRecDepth 100000 in
theorem kX4_quarrel_inv (l : Launch) (G : zG) (ad : Nat → Nat → Nat) (σ : Nat → Nat) (T : Nat → Nat → Nat) (o n : Nat) (f : Nat → Int32) (x : Nat → Nat) (len : Nat) {N : Nat} (x1 : Int32) (x2 : Int32) (x3 : Int32) (hO : Ok N σ) (ho : o < 5) (hn : n ≤ 4) (hv : ¬ ((0 ≤ x1 ∧ x1 < nI (nE σ)) ∧ ¬ (x2 < 0) ∧ (nI 0 ≤ x3 ∧ x3 ≤ nI 3))) (hd : va_D (fun _ => True) (wX G ad σ T o n f x len)) : Met l yX4_quarrel wsX4_quarrel (zRm 4 94) (zPc G [.ref (ad 0 0), .int x1, .int x2, .int x3] (va_P G.1 vwCl (wX G ad σ T o n f x len))) (zQ (zA (wX G ad σ T o n f x len)) (some (.int ((-1)))) (va_P G.1 vwCl (wX G ad σ T o n f x len))) 0 0 (zA (wX G ad σ T o n f x len)) := by
  refine zmkWi (w := (wX G ad σ T o n f x len)) hd (cc := cX4_quarrel) (maxL := 5) (by decide) rfl (Nat.le_of_ble_eq_true rfl) ?_
  intro pr en st mi ar bl me cd ls Q hx hb hml hown hts hG hP hl hD hS hret
  have hown : st.vm.findClass RX4 = some mi.cls := hown
  have hl : lv_has ls 5 [(0, .ref (ad 0 0)), (1, .int x1), (2, .int x2), (3, .int x3)] := hl
  have hP : va_P G.1 vwCl (wX G ad σ T o n f x len) st.heap := hP
  have hD : va_D (zA (wX G ad σ T o n f x len)) (wX G ad σ T o n f x len) := hD
  have hinX4 : ∀ w ∈ wsX40, w ∈ wsX4_quarrel := by decide +kernel
  have hf10 := hts (.fieldLink RX4 10 "MapSheets" "now" "LMapSheets$Atlas;") (by decide +kernel)
  have hc := hO.c
  have hs := hO.lS
  have hr := hO.lR
  have hne := hO.lE
  refine lv_aload_n hx hb dX4_quarrel_0 rfl (lv_at hl 0 rfl) ?_
  refine va_get (D := G.1) (ci := 4) (v := .ref (ad 1 0)) (C := RX4) (T := TX4) (N := 4) hx hb hts hinX4 hown hG.1 hP 0 rfl rfl 0 (by decide) hf10 (fun _ h9 => h9) rfl dX4_quarrel_1 ?_
  refine lv_iload_n hx hb dX4_quarrel_4 rfl (lv_at hl 1 rfl) ?_
  refine zrdV (As := [.int x1]) ⟨hx, hb, hml, hown, hts⟩ (kX0_hasEdge l G (ad 1) σ x1 (hO)) (cwV 1 hts gX4_quarrel_X0_hasEdge rfl rfl rfl (by decide +kernel) ⟨Nat.le_of_ble_eq_true rfl, Nat.le_of_ble_eq_true rfl⟩) hG (va_recv (q0 := 0) (ci := 0) hG.1 (wX_pA hP) rfl rfl) ((wX_pA hP)) rfl rfl hl.1 dX4_quarrel_5 (Nat.le_of_ble_eq_true rfl) ⟨Nat.le_of_ble_eq_true rfl, Nat.le_of_ble_eq_true rfl⟩ ?_
  refine lv_if_eq (tgt := 24) hx hb dX4_quarrel_8 (by decide) (fun h8 => ?_) (fun h8 => ?_)
  · skip
    have h8 : ¬ (0 ≤ x1 ∧ x1 < nI (nE σ)) := (z_b0).mp h8
    refine lv_iconst (v := (-1)) hx hb dX4_quarrel_24 (by decide) ?_
    exact hret _ _ _ _ _ dX4_quarrel_25 hS (hP) (rfl)
  · skip
    have h8 : ¬ (¬ (0 ≤ x1 ∧ x1 < nI (nE σ))) := fun q => h8 ((z_b0).mpr q)
    have h8 : 0 ≤ x1 ∧ x1 < nI (nE σ) := Decidable.of_not_not h8
    refine lv_iload_n hx hb dX4_quarrel_11 rfl (lv_at hl 2 rfl) ?_
    refine lv_if_lt (tgt := 24) hx hb dX4_quarrel_12 (by decide) (fun h12 => ?_) (fun h12 => ?_)
    · skip
      refine lv_iconst (v := (-1)) hx hb dX4_quarrel_24 (by decide) ?_
      exact hret _ _ _ _ _ dX4_quarrel_25 hS (hP) (rfl)
    · skip
      refine lv_iload_n hx hb dX4_quarrel_15 rfl (lv_at hl 3 rfl) ?_
      refine lv_iconst (v := nI 0) hx hb dX4_quarrel_16 (by decide) ?_
      refine lv_iconst (v := nI 3) hx hb dX4_quarrel_17 (by decide) ?_
      refine zrdS (As := [.int x3, .int (nI 0), .int (nI 3)]) ⟨hx, hb, hml, hown, hts⟩ (kX4_isWithin l G  x3 (nI 0) (nI 3)) (va_cwS 3 hts gX4_quarrel_X4_isWithin rfl rfl rfl (by decide +kernel) ⟨Nat.le_of_ble_eq_true rfl, Nat.le_of_ble_eq_true rfl⟩) hG (trivial) rfl rfl hl.1 dX4_quarrel_18 (Nat.le_of_ble_eq_true rfl) ⟨Nat.le_of_ble_eq_true rfl, Nat.le_of_ble_eq_true rfl⟩ ?_
      refine lv_if_ne (tgt := 26) hx hb dX4_quarrel_21 (by decide) (fun h21 => ?_) (fun h21 => ?_)
      · skip
        have h21 : ¬ (¬ ((nI 0) ≤ x3 ∧ x3 ≤ (nI 3))) := fun q => h21 ((z_b0).mpr q)
        have h21 : (nI 0) ≤ x3 ∧ x3 ≤ (nI 3) := Decidable.of_not_not h21
        exact absurd ⟨h8, h12, h21⟩ hv
      · skip
        have h21 : ¬ ((nI 0) ≤ x3 ∧ x3 ≤ (nI 3)) := (z_b0).mp h21
        refine lv_iconst (v := (-1)) hx hb dX4_quarrel_24 (by decide) ?_
        exact hret _ _ _ _ _ dX4_quarrel_25 hS (hP) (rfl)
set_option maxHeartbeats 4000000 in
set_option maxRecDepth 100000 in
theorem kX4_quarrel_none0 (l : Launch) (G : zG) (ad : Nat → Nat → Nat) (σ : Nat → Nat) (T : Nat → Nat → Nat) (o n : Nat) (f : Nat → Int32) (x : Nat → Nat) (len : Nat) {N : Nat} (e : Nat) (i : Nat) (hO : Ok N σ) (ho : o < 5) (hn : n ≤ 4) (he : e < nE σ) (hi31 : i < 2 ^ 31) (hq : pq σ e i = 10) (hd : va_D (fun _ => True) (wX G ad σ T o n f x len)) : Met l yX4_quarrel wsX4_quarrel (zRm 4 94) (zPc G [.ref (ad 0 0), .int (nI e), .int (nI i), .int (nI 0)] (va_P G.1 vwCl (wX G ad σ T o n f x len))) (zQ (zA (wX G ad σ T o n f x len)) (some (.int ((-4)))) (va_P G.1 vwCl (wX G ad σ T o n f x len))) 0 0 (zA (wX G ad σ T o n f x len)) := by
  refine zmkWi (w := (wX G ad σ T o n f x len)) hd (cc := cX4_quarrel) (maxL := 5) (by decide) rfl (Nat.le_of_ble_eq_true rfl) ?_
  intro pr en st mi ar bl me cd ls Q hx hb hml hown hts hG hP hl hD hS hret
  have hown : st.vm.findClass RX4 = some mi.cls := hown
  have hl : lv_has ls 5 [(0, .ref (ad 0 0)), (1, .int (nI e)), (2, .int (nI i)), (3, .int (nI 0))] := hl
  have hP : va_P G.1 vwCl (wX G ad σ T o n f x len) st.heap := hP
  have hD : va_D (zA (wX G ad σ T o n f x len)) (wX G ad σ T o n f x len) := hD
  have hinX4 : ∀ w ∈ wsX40, w ∈ wsX4_quarrel := by decide +kernel
  have hf10 := hts (.fieldLink RX4 10 "MapSheets" "now" "LMapSheets$Atlas;") (by decide +kernel)
  have hc := hO.c
  have hs := hO.lS
  have hr := hO.lR
  have hne := hO.lE
  have hve : 0 ≤ nI e ∧ nI e < nI (nE σ) := z_in he (by omega)
  have hvw : nI 0 ≤ nI 0 ∧ nI 0 ≤ nI 3 := by decide
  have hfs := hO.lF he
  have hda := fD_lt σ e
  have hdb := sD_lt σ e
  have hpl := pq_le σ e i
  refine lv_aload_n hx hb dX4_quarrel_0 rfl (lv_at hl 0 rfl) ?_
  refine va_get (D := G.1) (ci := 4) (v := .ref (ad 1 0)) (C := RX4) (T := TX4) (N := 4) hx hb hts hinX4 hown hG.1 hP 0 rfl rfl 0 (by decide) hf10 (fun _ h9 => h9) rfl dX4_quarrel_1 ?_
  refine lv_iload_n hx hb dX4_quarrel_4 rfl (lv_at hl 1 rfl) ?_
  refine zrdV (As := [.int (nI e)]) ⟨hx, hb, hml, hown, hts⟩ (kX0_hasEdge l G (ad 1) σ (nI e) (hO)) (cwV 1 hts gX4_quarrel_X0_hasEdge rfl rfl rfl (by decide +kernel) ⟨Nat.le_of_ble_eq_true rfl, Nat.le_of_ble_eq_true rfl⟩) hG (va_recv (q0 := 0) (ci := 0) hG.1 (wX_pA hP) rfl rfl) ((wX_pA hP)) rfl rfl hl.1 dX4_quarrel_5 (Nat.le_of_ble_eq_true rfl) ⟨Nat.le_of_ble_eq_true rfl, Nat.le_of_ble_eq_true rfl⟩ ?_
  refine lv_if_eq (tgt := 24) hx hb dX4_quarrel_8 (by decide) (fun h8 => ?_) (fun h8 => ?_)
  · skip
    have h8 : ¬ (0 ≤ (nI e) ∧ (nI e) < nI (nE σ)) := (z_b0).mp h8
    exact absurd hve h8
  · skip
    have h8 : ¬ (¬ (0 ≤ (nI e) ∧ (nI e) < nI (nE σ))) := fun q => h8 ((z_b0).mpr q)
    have h8 : 0 ≤ (nI e) ∧ (nI e) < nI (nE σ) := Decidable.of_not_not h8
    refine lv_iload_n hx hb dX4_quarrel_11 rfl (lv_at hl 2 rfl) ?_
    refine lv_if_lt (tgt := 24) hx hb dX4_quarrel_12 (by decide) (fun h12 => ?_) (fun h12 => ?_)
    · skip
      have h12 : False := (z_lt0 (by omega)).mp h12
      exfalso; omega
    · skip
      have h12 : ¬ (False) := fun q => h12 ((z_lt0 (by omega)).mpr q)
      refine lv_iload_n hx hb dX4_quarrel_15 rfl (lv_at hl 3 rfl) ?_
      refine lv_iconst (v := nI 0) hx hb dX4_quarrel_16 (by decide) ?_
      refine lv_iconst (v := nI 3) hx hb dX4_quarrel_17 (by decide) ?_
      refine zrdS (As := [.int (nI 0), .int (nI 0), .int (nI 3)]) ⟨hx, hb, hml, hown, hts⟩ (kX4_isWithin l G  (nI 0) (nI 0) (nI 3)) (va_cwS 3 hts gX4_quarrel_X4_isWithin rfl rfl rfl (by decide +kernel) ⟨Nat.le_of_ble_eq_true rfl, Nat.le_of_ble_eq_true rfl⟩) hG (trivial) rfl rfl hl.1 dX4_quarrel_18 (Nat.le_of_ble_eq_true rfl) ⟨Nat.le_of_ble_eq_true rfl, Nat.le_of_ble_eq_true rfl⟩ ?_
      refine lv_if_ne (tgt := 26) hx hb dX4_quarrel_21 (by decide) (fun h21 => ?_) (fun h21 => ?_)
      · skip
        have h21 : ¬ (¬ ((nI 0) ≤ (nI 0) ∧ (nI 0) ≤ (nI 3))) := fun q => h21 ((z_b0).mpr q)
        have h21 : (nI 0) ≤ (nI 0) ∧ (nI 0) ≤ (nI 3) := Decidable.of_not_not h21
        refine lv_aload_n hx hb dX4_quarrel_26 rfl (lv_at hl 0 rfl) ?_
        refine va_get (D := G.1) (ci := 4) (v := .ref (ad 1 0)) (C := RX4) (T := TX4) (N := 4) hx hb hts hinX4 hown hG.1 hP 0 rfl rfl 0 (by decide) hf10 (fun _ h9 => h9) rfl dX4_quarrel_27 ?_
        refine lv_iload_n hx hb dX4_quarrel_30 rfl (lv_at hl 1 rfl) ?_
        refine lv_iload_n hx hb dX4_quarrel_31 rfl (lv_at hl 2 rfl) ?_
        refine zrdV (As := [.int (nI e), .int (nI i)]) ⟨hx, hb, hml, hown, hts⟩ (kX0_positionOfQuarrel l G (ad 1) σ e i (hO) (by omega) (by omega)) (cwV 2 hts gX4_quarrel_X0_positionOfQuarrel rfl rfl rfl (by decide +kernel) ⟨Nat.le_of_ble_eq_true rfl, Nat.le_of_ble_eq_true rfl⟩) hG (va_recv (q0 := 0) (ci := 0) hG.1 (wX_pA hP) rfl rfl) ((wX_pA hP)) rfl rfl hl.1 dX4_quarrel_32 (Nat.le_of_ble_eq_true rfl) ⟨Nat.le_of_ble_eq_true rfl, Nat.le_of_ble_eq_true rfl⟩ ?_
        have hf32_0 := pq_le σ (e) (i)
        refine lv_istore (lv' := [(4, .int (zc 10 (pq σ e i))), (0, .ref (ad 0 0)), (1, .int (nI e)), (2, .int (nI i)), (3, .int (nI 0))]) hx hb dX4_quarrel_35 hl (by decide) rfl (fun ls hl => ?_)
        refine lv_iload hx hb dX4_quarrel_37 (lv_at hl 0 rfl) ?_
        refine lv_bipush (v := (-4)) hx hb dX4_quarrel_39 (by decide) ?_
        refine lv_icmp_ne (tgt := 47) hx hb dX4_quarrel_41 (by decide) (fun h41 => ?_) (fun h41 => ?_)
        · skip
          have h41 : ¬ (pq σ e i = 10) := fun q => h41 ((zc_m4 (by omega)).mpr q)
          exact absurd hq h41
        · skip
          have h41 : pq σ e i = 10 := (zc_m4 (by omega)).mp h41
          refine lv_bipush (v := (-4)) hx hb dX4_quarrel_44 (by decide) ?_
          exact hret _ _ _ _ _ dX4_quarrel_46 hS (hP) (rfl)
      · skip
        have h21 : ¬ ((nI 0) ≤ (nI 0) ∧ (nI 0) ≤ (nI 3)) := (z_b0).mp h21
        exact absurd hvw h21
set_option maxHeartbeats 4000000 in
set_option maxRecDepth 100000 in
theorem kX4_quarrel_0 (l : Launch) (G : zG) (ad : Nat → Nat → Nat) (σ : Nat → Nat) (T : Nat → Nat → Nat) (o n : Nat) (f : Nat → Int32) (x : Nat → Nat) (len : Nat) {N : Nat} (e : Nat) (i : Nat) (hO : Ok N σ) (ho : o < 5) (hn : n ≤ 4) (he : e < nE σ) (hi31 : i < 2 ^ 31) (hq : pq σ e i ≠ 10) (hd : va_D (fun _ => True) (wX G ad σ T o n f x len)) : Met l yX4_quarrel wsX4_quarrel (zRm 4 94) (zPc G [.ref (ad 0 0), .int (nI e), .int (nI i), .int (nI 0)] (va_P G.1 vwCl (wX G ad σ T o n f x len))) (zQ (zA (wX G ad σ T o n f x len)) (some (.int (nI (pq σ e i)))) (va_P G.1 vwCl (wX G ad σ T o n f x len))) 0 0 (zA (wX G ad σ T o n f x len)) := by
  refine zmkWi (w := (wX G ad σ T o n f x len)) hd (cc := cX4_quarrel) (maxL := 5) (by decide) rfl (Nat.le_of_ble_eq_true rfl) ?_
  intro pr en st mi ar bl me cd ls Q hx hb hml hown hts hG hP hl hD hS hret
  have hown : st.vm.findClass RX4 = some mi.cls := hown
  have hl : lv_has ls 5 [(0, .ref (ad 0 0)), (1, .int (nI e)), (2, .int (nI i)), (3, .int (nI 0))] := hl
  have hP : va_P G.1 vwCl (wX G ad σ T o n f x len) st.heap := hP
  have hD : va_D (zA (wX G ad σ T o n f x len)) (wX G ad σ T o n f x len) := hD
  have hinX4 : ∀ w ∈ wsX40, w ∈ wsX4_quarrel := by decide +kernel
  have hf10 := hts (.fieldLink RX4 10 "MapSheets" "now" "LMapSheets$Atlas;") (by decide +kernel)
  have hc := hO.c
  have hs := hO.lS
  have hr := hO.lR
  have hne := hO.lE
  have hve : 0 ≤ nI e ∧ nI e < nI (nE σ) := z_in he (by omega)
  have hvw : nI 0 ≤ nI 0 ∧ nI 0 ≤ nI 3 := by decide
  have hfs := hO.lF he
  have hda := fD_lt σ e
  have hdb := sD_lt σ e
  have hpl := pq_le σ e i
  refine lv_aload_n hx hb dX4_quarrel_0 rfl (lv_at hl 0 rfl) ?_
  refine va_get (D := G.1) (ci := 4) (v := .ref (ad 1 0)) (C := RX4) (T := TX4) (N := 4) hx hb hts hinX4 hown hG.1 hP 0 rfl rfl 0 (by decide) hf10 (fun _ h9 => h9) rfl dX4_quarrel_1 ?_
  refine lv_iload_n hx hb dX4_quarrel_4 rfl (lv_at hl 1 rfl) ?_
  refine zrdV (As := [.int (nI e)]) ⟨hx, hb, hml, hown, hts⟩ (kX0_hasEdge l G (ad 1) σ (nI e) (hO)) (cwV 1 hts gX4_quarrel_X0_hasEdge rfl rfl rfl (by decide +kernel) ⟨Nat.le_of_ble_eq_true rfl, Nat.le_of_ble_eq_true rfl⟩) hG (va_recv (q0 := 0) (ci := 0) hG.1 (wX_pA hP) rfl rfl) ((wX_pA hP)) rfl rfl hl.1 dX4_quarrel_5 (Nat.le_of_ble_eq_true rfl) ⟨Nat.le_of_ble_eq_true rfl, Nat.le_of_ble_eq_true rfl⟩ ?_
  refine lv_if_eq (tgt := 24) hx hb dX4_quarrel_8 (by decide) (fun h8 => ?_) (fun h8 => ?_)
  · skip
    have h8 : ¬ (0 ≤ (nI e) ∧ (nI e) < nI (nE σ)) := (z_b0).mp h8
    exact absurd hve h8
  · skip
    have h8 : ¬ (¬ (0 ≤ (nI e) ∧ (nI e) < nI (nE σ))) := fun q => h8 ((z_b0).mpr q)
    have h8 : 0 ≤ (nI e) ∧ (nI e) < nI (nE σ) := Decidable.of_not_not h8
    refine lv_iload_n hx hb dX4_quarrel_11 rfl (lv_at hl 2 rfl) ?_
    refine lv_if_lt (tgt := 24) hx hb dX4_quarrel_12 (by decide) (fun h12 => ?_) (fun h12 => ?_)
    · skip
      have h12 : False := (z_lt0 (by omega)).mp h12
      exfalso; omega
    · skip
      have h12 : ¬ (False) := fun q => h12 ((z_lt0 (by omega)).mpr q)
      refine lv_iload_n hx hb dX4_quarrel_15 rfl (lv_at hl 3 rfl) ?_
      refine lv_iconst (v := nI 0) hx hb dX4_quarrel_16 (by decide) ?_
      refine lv_iconst (v := nI 3) hx hb dX4_quarrel_17 (by decide) ?_
      refine zrdS (As := [.int (nI 0), .int (nI 0), .int (nI 3)]) ⟨hx, hb, hml, hown, hts⟩ (kX4_isWithin l G  (nI 0) (nI 0) (nI 3)) (va_cwS 3 hts gX4_quarrel_X4_isWithin rfl rfl rfl (by decide +kernel) ⟨Nat.le_of_ble_eq_true rfl, Nat.le_of_ble_eq_true rfl⟩) hG (trivial) rfl rfl hl.1 dX4_quarrel_18 (Nat.le_of_ble_eq_true rfl) ⟨Nat.le_of_ble_eq_true rfl, Nat.le_of_ble_eq_true rfl⟩ ?_
      refine lv_if_ne (tgt := 26) hx hb dX4_quarrel_21 (by decide) (fun h21 => ?_) (fun h21 => ?_)
      · skip
        have h21 : ¬ (¬ ((nI 0) ≤ (nI 0) ∧ (nI 0) ≤ (nI 3))) := fun q => h21 ((z_b0).mpr q)
        have h21 : (nI 0) ≤ (nI 0) ∧ (nI 0) ≤ (nI 3) := Decidable.of_not_not h21
        refine lv_aload_n hx hb dX4_quarrel_26 rfl (lv_at hl 0 rfl) ?_
        refine va_get (D := G.1) (ci := 4) (v := .ref (ad 1 0)) (C := RX4) (T := TX4) (N := 4) hx hb hts hinX4 hown hG.1 hP 0 rfl rfl 0 (by decide) hf10 (fun _ h9 => h9) rfl dX4_quarrel_27 ?_
        refine lv_iload_n hx hb dX4_quarrel_30 rfl (lv_at hl 1 rfl) ?_
        refine lv_iload_n hx hb dX4_quarrel_31 rfl (lv_at hl 2 rfl) ?_
        refine zrdV (As := [.int (nI e), .int (nI i)]) ⟨hx, hb, hml, hown, hts⟩ (kX0_positionOfQuarrel l G (ad 1) σ e i (hO) (by omega) (by omega)) (cwV 2 hts gX4_quarrel_X0_positionOfQuarrel rfl rfl rfl (by decide +kernel) ⟨Nat.le_of_ble_eq_true rfl, Nat.le_of_ble_eq_true rfl⟩) hG (va_recv (q0 := 0) (ci := 0) hG.1 (wX_pA hP) rfl rfl) ((wX_pA hP)) rfl rfl hl.1 dX4_quarrel_32 (Nat.le_of_ble_eq_true rfl) ⟨Nat.le_of_ble_eq_true rfl, Nat.le_of_ble_eq_true rfl⟩ ?_
        have hf32_0 := pq_le σ (e) (i)
        refine lv_istore (lv' := [(4, .int (zc 10 (pq σ e i))), (0, .ref (ad 0 0)), (1, .int (nI e)), (2, .int (nI i)), (3, .int (nI 0))]) hx hb dX4_quarrel_35 hl (by decide) rfl (fun ls hl => ?_)
        refine lv_iload hx hb dX4_quarrel_37 (lv_at hl 0 rfl) ?_
        refine lv_bipush (v := (-4)) hx hb dX4_quarrel_39 (by decide) ?_
        refine lv_icmp_ne (tgt := 47) hx hb dX4_quarrel_41 (by decide) (fun h41 => ?_) (fun h41 => ?_)
        · skip
          have h41 : ¬ (pq σ e i = 10) := fun q => h41 ((zc_m4 (by omega)).mpr q)
          rw [show zc 10 (pq σ e i) = nI (pq σ e i) from zc_n hq] at hl
          refine lv_iload_n hx hb dX4_quarrel_47 rfl (lv_at hl 4 rfl) ?_
          refine lv_tableIn (off := 28) (tgt := 76) hx hb dX4_quarrel_48 (by decide) (by decide) (by decide) (by decide) ?_
          refine lv_iload hx hb dX4_quarrel_76 (lv_at hl 0 rfl) ?_
          exact hret _ _ _ _ _ dX4_quarrel_78 hS (hP) (rfl)
        · skip
          have h41 : pq σ e i = 10 := (zc_m4 (by omega)).mp h41
          exact absurd h41 hq
      · skip
        have h21 : ¬ ((nI 0) ≤ (nI 0) ∧ (nI 0) ≤ (nI 3)) := (z_b0).mp h21
        exact absurd hvw h21
set_option maxHeartbeats 4000000 in
set_option maxRecDepth 100000 in
theorem kX4_quarrel_none1 (l : Launch) (G : zG) (ad : Nat → Nat → Nat) (σ : Nat → Nat) (T : Nat → Nat → Nat) (o n : Nat) (f : Nat → Int32) (x : Nat → Nat) (len : Nat) {N : Nat} (e : Nat) (i : Nat) (hO : Ok N σ) (ho : o < 5) (hn : n ≤ 4) (he : e < nE σ) (hi31 : i < 2 ^ 31) (hq : pq σ e i = 10) (hd : va_D (fun _ => True) (wX G ad σ T o n f x len)) : Met l yX4_quarrel wsX4_quarrel (zRm 4 94) (zPc G [.ref (ad 0 0), .int (nI e), .int (nI i), .int (nI 1)] (va_P G.1 vwCl (wX G ad σ T o n f x len))) (zQ (zA (wX G ad σ T o n f x len)) (some (.int ((-4)))) (va_P G.1 vwCl (wX G ad σ T o n f x len))) 0 0 (zA (wX G ad σ T o n f x len)) := by
  refine zmkWi (w := (wX G ad σ T o n f x len)) hd (cc := cX4_quarrel) (maxL := 5) (by decide) rfl (Nat.le_of_ble_eq_true rfl) ?_
  intro pr en st mi ar bl me cd ls Q hx hb hml hown hts hG hP hl hD hS hret
  have hown : st.vm.findClass RX4 = some mi.cls := hown
  have hl : lv_has ls 5 [(0, .ref (ad 0 0)), (1, .int (nI e)), (2, .int (nI i)), (3, .int (nI 1))] := hl
  have hP : va_P G.1 vwCl (wX G ad σ T o n f x len) st.heap := hP
  have hD : va_D (zA (wX G ad σ T o n f x len)) (wX G ad σ T o n f x len) := hD
  have hinX4 : ∀ w ∈ wsX40, w ∈ wsX4_quarrel := by decide +kernel
  have hf10 := hts (.fieldLink RX4 10 "MapSheets" "now" "LMapSheets$Atlas;") (by decide +kernel)
  have hc := hO.c
  have hs := hO.lS
  have hr := hO.lR
  have hne := hO.lE
  have hve : 0 ≤ nI e ∧ nI e < nI (nE σ) := z_in he (by omega)
  have hvw : nI 0 ≤ nI 1 ∧ nI 1 ≤ nI 3 := by decide
  have hfs := hO.lF he
  have hda := fD_lt σ e
  have hdb := sD_lt σ e
  have hpl := pq_le σ e i
  refine lv_aload_n hx hb dX4_quarrel_0 rfl (lv_at hl 0 rfl) ?_
  refine va_get (D := G.1) (ci := 4) (v := .ref (ad 1 0)) (C := RX4) (T := TX4) (N := 4) hx hb hts hinX4 hown hG.1 hP 0 rfl rfl 0 (by decide) hf10 (fun _ h9 => h9) rfl dX4_quarrel_1 ?_
  refine lv_iload_n hx hb dX4_quarrel_4 rfl (lv_at hl 1 rfl) ?_
  refine zrdV (As := [.int (nI e)]) ⟨hx, hb, hml, hown, hts⟩ (kX0_hasEdge l G (ad 1) σ (nI e) (hO)) (cwV 1 hts gX4_quarrel_X0_hasEdge rfl rfl rfl (by decide +kernel) ⟨Nat.le_of_ble_eq_true rfl, Nat.le_of_ble_eq_true rfl⟩) hG (va_recv (q0 := 0) (ci := 0) hG.1 (wX_pA hP) rfl rfl) ((wX_pA hP)) rfl rfl hl.1 dX4_quarrel_5 (Nat.le_of_ble_eq_true rfl) ⟨Nat.le_of_ble_eq_true rfl, Nat.le_of_ble_eq_true rfl⟩ ?_
  refine lv_if_eq (tgt := 24) hx hb dX4_quarrel_8 (by decide) (fun h8 => ?_) (fun h8 => ?_)
  · skip
    have h8 : ¬ (0 ≤ (nI e) ∧ (nI e) < nI (nE σ)) := (z_b0).mp h8
    exact absurd hve h8
  · skip
    have h8 : ¬ (¬ (0 ≤ (nI e) ∧ (nI e) < nI (nE σ))) := fun q => h8 ((z_b0).mpr q)
    have h8 : 0 ≤ (nI e) ∧ (nI e) < nI (nE σ) := Decidable.of_not_not h8
    refine lv_iload_n hx hb dX4_quarrel_11 rfl (lv_at hl 2 rfl) ?_
    refine lv_if_lt (tgt := 24) hx hb dX4_quarrel_12 (by decide) (fun h12 => ?_) (fun h12 => ?_)
    · skip
      have h12 : False := (z_lt0 (by omega)).mp h12
      exfalso; omega
    · skip
      have h12 : ¬ (False) := fun q => h12 ((z_lt0 (by omega)).mpr q)
      refine lv_iload_n hx hb dX4_quarrel_15 rfl (lv_at hl 3 rfl) ?_
      refine lv_iconst (v := nI 0) hx hb dX4_quarrel_16 (by decide) ?_
      refine lv_iconst (v := nI 3) hx hb dX4_quarrel_17 (by decide) ?_
      refine zrdS (As := [.int (nI 1), .int (nI 0), .int (nI 3)]) ⟨hx, hb, hml, hown, hts⟩ (kX4_isWithin l G  (nI 1) (nI 0) (nI 3)) (va_cwS 3 hts gX4_quarrel_X4_isWithin rfl rfl rfl (by decide +kernel) ⟨Nat.le_of_ble_eq_true rfl, Nat.le_of_ble_eq_true rfl⟩) hG (trivial) rfl rfl hl.1 dX4_quarrel_18 (Nat.le_of_ble_eq_true rfl) ⟨Nat.le_of_ble_eq_true rfl, Nat.le_of_ble_eq_true rfl⟩ ?_
      refine lv_if_ne (tgt := 26) hx hb dX4_quarrel_21 (by decide) (fun h21 => ?_) (fun h21 => ?_)
      · skip
        have h21 : ¬ (¬ ((nI 0) ≤ (nI 1) ∧ (nI 1) ≤ (nI 3))) := fun q => h21 ((z_b0).mpr q)
        have h21 : (nI 0) ≤ (nI 1) ∧ (nI 1) ≤ (nI 3) := Decidable.of_not_not h21
        refine lv_aload_n hx hb dX4_quarrel_26 rfl (lv_at hl 0 rfl) ?_
        refine va_get (D := G.1) (ci := 4) (v := .ref (ad 1 0)) (C := RX4) (T := TX4) (N := 4) hx hb hts hinX4 hown hG.1 hP 0 rfl rfl 0 (by decide) hf10 (fun _ h9 => h9) rfl dX4_quarrel_27 ?_
        refine lv_iload_n hx hb dX4_quarrel_30 rfl (lv_at hl 1 rfl) ?_
        refine lv_iload_n hx hb dX4_quarrel_31 rfl (lv_at hl 2 rfl) ?_
        refine zrdV (As := [.int (nI e), .int (nI i)]) ⟨hx, hb, hml, hown, hts⟩ (kX0_positionOfQuarrel l G (ad 1) σ e i (hO) (by omega) (by omega)) (cwV 2 hts gX4_quarrel_X0_positionOfQuarrel rfl rfl rfl (by decide +kernel) ⟨Nat.le_of_ble_eq_true rfl, Nat.le_of_ble_eq_true rfl⟩) hG (va_recv (q0 := 0) (ci := 0) hG.1 (wX_pA hP) rfl rfl) ((wX_pA hP)) rfl rfl hl.1 dX4_quarrel_32 (Nat.le_of_ble_eq_true rfl) ⟨Nat.le_of_ble_eq_true rfl, Nat.le_of_ble_eq_true rfl⟩ ?_
        have hf32_0 := pq_le σ (e) (i)
        refine lv_istore (lv' := [(4, .int (zc 10 (pq σ e i))), (0, .ref (ad 0 0)), (1, .int (nI e)), (2, .int (nI i)), (3, .int (nI 1))]) hx hb dX4_quarrel_35 hl (by decide) rfl (fun ls hl => ?_)
        refine lv_iload hx hb dX4_quarrel_37 (lv_at hl 0 rfl) ?_
        refine lv_bipush (v := (-4)) hx hb dX4_quarrel_39 (by decide) ?_
        refine lv_icmp_ne (tgt := 47) hx hb dX4_quarrel_41 (by decide) (fun h41 => ?_) (fun h41 => ?_)
        · skip
          have h41 : ¬ (pq σ e i = 10) := fun q => h41 ((zc_m4 (by omega)).mpr q)
          exact absurd hq h41
        · skip
          have h41 : pq σ e i = 10 := (zc_m4 (by omega)).mp h41
          refine lv_bipush (v := (-4)) hx hb dX4_quarrel_44 (by decide) ?_
          exact hret _ _ _ _ _ dX4_quarrel_46 hS (hP) (rfl)
      · skip
        have h21 : ¬ ((nI 0) ≤ (nI 1) ∧ (nI 1) ≤ (nI 3)) := (z_b0).mp h21
        exact absurd hvw h21
set_option maxHeartbeats 4000000 in
set_option maxRecDepth 100000 in
theorem kX4_quarrel_1 (l : Launch) (G : zG) (ad : Nat → Nat → Nat) (σ : Nat → Nat) (T : Nat → Nat → Nat) (o n : Nat) (f : Nat → Int32) (x : Nat → Nat) (len : Nat) {N : Nat} (e : Nat) (i : Nat) (hO : Ok N σ) (ho : o < 5) (hn : n ≤ 4) (he : e < nE σ) (hi31 : i < 2 ^ 31) (hq : pq σ e i ≠ 10) (hd : va_D (fun _ => True) (wX G ad σ T o n f x len)) : Met l yX4_quarrel wsX4_quarrel (zRm 4 94) (zPc G [.ref (ad 0 0), .int (nI e), .int (nI i), .int (nI 1)] (va_P G.1 vwCl (wX G ad σ T o n f x len))) (zQ (zA (wX G ad σ T o n f x len)) (some (.int (nI (rsn σ e (pq σ e i))))) (va_P G.1 vwCl (wX G ad σ T o n f x len))) 0 0 (zA (wX G ad σ T o n f x len)) := by
  refine zmkWi (w := (wX G ad σ T o n f x len)) hd (cc := cX4_quarrel) (maxL := 5) (by decide) rfl (Nat.le_of_ble_eq_true rfl) ?_
  intro pr en st mi ar bl me cd ls Q hx hb hml hown hts hG hP hl hD hS hret
  have hown : st.vm.findClass RX4 = some mi.cls := hown
  have hl : lv_has ls 5 [(0, .ref (ad 0 0)), (1, .int (nI e)), (2, .int (nI i)), (3, .int (nI 1))] := hl
  have hP : va_P G.1 vwCl (wX G ad σ T o n f x len) st.heap := hP
  have hD : va_D (zA (wX G ad σ T o n f x len)) (wX G ad σ T o n f x len) := hD
  have hinX4 : ∀ w ∈ wsX40, w ∈ wsX4_quarrel := by decide +kernel
  have hf10 := hts (.fieldLink RX4 10 "MapSheets" "now" "LMapSheets$Atlas;") (by decide +kernel)
  have hc := hO.c
  have hs := hO.lS
  have hr := hO.lR
  have hne := hO.lE
  have hve : 0 ≤ nI e ∧ nI e < nI (nE σ) := z_in he (by omega)
  have hvw : nI 0 ≤ nI 1 ∧ nI 1 ≤ nI 3 := by decide
  have hfs := hO.lF he
  have hda := fD_lt σ e
  have hdb := sD_lt σ e
  have hpl := pq_le σ e i
  refine lv_aload_n hx hb dX4_quarrel_0 rfl (lv_at hl 0 rfl) ?_
  refine va_get (D := G.1) (ci := 4) (v := .ref (ad 1 0)) (C := RX4) (T := TX4) (N := 4) hx hb hts hinX4 hown hG.1 hP 0 rfl rfl 0 (by decide) hf10 (fun _ h9 => h9) rfl dX4_quarrel_1 ?_
  refine lv_iload_n hx hb dX4_quarrel_4 rfl (lv_at hl 1 rfl) ?_
  refine zrdV (As := [.int (nI e)]) ⟨hx, hb, hml, hown, hts⟩ (kX0_hasEdge l G (ad 1) σ (nI e) (hO)) (cwV 1 hts gX4_quarrel_X0_hasEdge rfl rfl rfl (by decide +kernel) ⟨Nat.le_of_ble_eq_true rfl, Nat.le_of_ble_eq_true rfl⟩) hG (va_recv (q0 := 0) (ci := 0) hG.1 (wX_pA hP) rfl rfl) ((wX_pA hP)) rfl rfl hl.1 dX4_quarrel_5 (Nat.le_of_ble_eq_true rfl) ⟨Nat.le_of_ble_eq_true rfl, Nat.le_of_ble_eq_true rfl⟩ ?_
  refine lv_if_eq (tgt := 24) hx hb dX4_quarrel_8 (by decide) (fun h8 => ?_) (fun h8 => ?_)
  · skip
    have h8 : ¬ (0 ≤ (nI e) ∧ (nI e) < nI (nE σ)) := (z_b0).mp h8
    exact absurd hve h8
  · skip
    have h8 : ¬ (¬ (0 ≤ (nI e) ∧ (nI e) < nI (nE σ))) := fun q => h8 ((z_b0).mpr q)
    have h8 : 0 ≤ (nI e) ∧ (nI e) < nI (nE σ) := Decidable.of_not_not h8
    refine lv_iload_n hx hb dX4_quarrel_11 rfl (lv_at hl 2 rfl) ?_
    refine lv_if_lt (tgt := 24) hx hb dX4_quarrel_12 (by decide) (fun h12 => ?_) (fun h12 => ?_)
    · skip
      have h12 : False := (z_lt0 (by omega)).mp h12
      exfalso; omega
    · skip
      have h12 : ¬ (False) := fun q => h12 ((z_lt0 (by omega)).mpr q)
      refine lv_iload_n hx hb dX4_quarrel_15 rfl (lv_at hl 3 rfl) ?_
      refine lv_iconst (v := nI 0) hx hb dX4_quarrel_16 (by decide) ?_
      refine lv_iconst (v := nI 3) hx hb dX4_quarrel_17 (by decide) ?_
      refine zrdS (As := [.int (nI 1), .int (nI 0), .int (nI 3)]) ⟨hx, hb, hml, hown, hts⟩ (kX4_isWithin l G  (nI 1) (nI 0) (nI 3)) (va_cwS 3 hts gX4_quarrel_X4_isWithin rfl rfl rfl (by decide +kernel) ⟨Nat.le_of_ble_eq_true rfl, Nat.le_of_ble_eq_true rfl⟩) hG (trivial) rfl rfl hl.1 dX4_quarrel_18 (Nat.le_of_ble_eq_true rfl) ⟨Nat.le_of_ble_eq_true rfl, Nat.le_of_ble_eq_true rfl⟩ ?_
      refine lv_if_ne (tgt := 26) hx hb dX4_quarrel_21 (by decide) (fun h21 => ?_) (fun h21 => ?_)
      · skip
        have h21 : ¬ (¬ ((nI 0) ≤ (nI 1) ∧ (nI 1) ≤ (nI 3))) := fun q => h21 ((z_b0).mpr q)
        have h21 : (nI 0) ≤ (nI 1) ∧ (nI 1) ≤ (nI 3) := Decidable.of_not_not h21
        refine lv_aload_n hx hb dX4_quarrel_26 rfl (lv_at hl 0 rfl) ?_
        refine va_get (D := G.1) (ci := 4) (v := .ref (ad 1 0)) (C := RX4) (T := TX4) (N := 4) hx hb hts hinX4 hown hG.1 hP 0 rfl rfl 0 (by decide) hf10 (fun _ h9 => h9) rfl dX4_quarrel_27 ?_
        refine lv_iload_n hx hb dX4_quarrel_30 rfl (lv_at hl 1 rfl) ?_
        refine lv_iload_n hx hb dX4_quarrel_31 rfl (lv_at hl 2 rfl) ?_
        refine zrdV (As := [.int (nI e), .int (nI i)]) ⟨hx, hb, hml, hown, hts⟩ (kX0_positionOfQuarrel l G (ad 1) σ e i (hO) (by omega) (by omega)) (cwV 2 hts gX4_quarrel_X0_positionOfQuarrel rfl rfl rfl (by decide +kernel) ⟨Nat.le_of_ble_eq_true rfl, Nat.le_of_ble_eq_true rfl⟩) hG (va_recv (q0 := 0) (ci := 0) hG.1 (wX_pA hP) rfl rfl) ((wX_pA hP)) rfl rfl hl.1 dX4_quarrel_32 (Nat.le_of_ble_eq_true rfl) ⟨Nat.le_of_ble_eq_true rfl, Nat.le_of_ble_eq_true rfl⟩ ?_
        have hf32_0 := pq_le σ (e) (i)
        refine lv_istore (lv' := [(4, .int (zc 10 (pq σ e i))), (0, .ref (ad 0 0)), (1, .int (nI e)), (2, .int (nI i)), (3, .int (nI 1))]) hx hb dX4_quarrel_35 hl (by decide) rfl (fun ls hl => ?_)
        refine lv_iload hx hb dX4_quarrel_37 (lv_at hl 0 rfl) ?_
        refine lv_bipush (v := (-4)) hx hb dX4_quarrel_39 (by decide) ?_
        refine lv_icmp_ne (tgt := 47) hx hb dX4_quarrel_41 (by decide) (fun h41 => ?_) (fun h41 => ?_)
        · skip
          have h41 : ¬ (pq σ e i = 10) := fun q => h41 ((zc_m4 (by omega)).mpr q)
          rw [show zc 10 (pq σ e i) = nI (pq σ e i) from zc_n hq] at hl
          refine lv_iload_n hx hb dX4_quarrel_47 rfl (lv_at hl 4 rfl) ?_
          refine lv_tableIn (off := 31) (tgt := 79) hx hb dX4_quarrel_48 (by decide) (by decide) (by decide) (by decide) ?_
          refine lv_aload_n hx hb dX4_quarrel_79 rfl (lv_at hl 1 rfl) ?_
          refine va_get (D := G.1) (ci := 4) (v := .ref (ad 1 0)) (C := RX4) (T := TX4) (N := 4) hx hb hts hinX4 hown hG.1 hP 0 rfl rfl 0 (by decide) hf10 (fun _ h9 => h9) rfl dX4_quarrel_80 ?_
          refine lv_iload_n hx hb dX4_quarrel_83 rfl (lv_at hl 2 rfl) ?_
          refine lv_iload hx hb dX4_quarrel_84 (lv_at hl 0 rfl) ?_
          refine zrdV (As := [.int (nI e), .int (nI (pq σ e i))]) ⟨hx, hb, hml, hown, hts⟩ (kX0_reasonAt l G (ad 1) σ e (pq σ e i) (hO) (by omega) (by omega)) (cwV 2 hts gX4_quarrel_X0_reasonAt rfl rfl rfl (by decide +kernel) ⟨Nat.le_of_ble_eq_true rfl, Nat.le_of_ble_eq_true rfl⟩) hG (va_recv (q0 := 0) (ci := 0) hG.1 (wX_pA hP) rfl rfl) ((wX_pA hP)) rfl rfl hl.1 dX4_quarrel_86 (Nat.le_of_ble_eq_true rfl) ⟨Nat.le_of_ble_eq_true rfl, Nat.le_of_ble_eq_true rfl⟩ ?_
          have hf86_0 := rsn_le σ (e) ((pq σ e i))
          exact hret _ _ _ _ _ dX4_quarrel_89 hS (hP) (rfl)
        · skip
          have h41 : pq σ e i = 10 := (zc_m4 (by omega)).mp h41
          exact absurd h41 hq
      · skip
        have h21 : ¬ ((nI 0) ≤ (nI 1) ∧ (nI 1) ≤ (nI 3)) := (z_b0).mp h21
        exact absurd hvw h21
set_option maxHeartbeats 4000000 in
set_option maxRecDepth 100000 in
theorem kX4_quarrel_none2 (l : Launch) (G : zG) (ad : Nat → Nat → Nat) (σ : Nat → Nat) (T : Nat → Nat → Nat) (o n : Nat) (f : Nat → Int32) (x : Nat → Nat) (len : Nat) {N : Nat} (e : Nat) (i : Nat) (hO : Ok N σ) (ho : o < 5) (hn : n ≤ 4) (he : e < nE σ) (hi31 : i < 2 ^ 31) (hq : pq σ e i = 10) (hd : va_D (fun _ => True) (wX G ad σ T o n f x len)) : Met l yX4_quarrel wsX4_quarrel (zRm 4 94) (zPc G [.ref (ad 0 0), .int (nI e), .int (nI i), .int (nI 2)] (va_P G.1 vwCl (wX G ad σ T o n f x len))) (zQ (zA (wX G ad σ T o n f x len)) (some (.int ((-4)))) (va_P G.1 vwCl (wX G ad σ T o n f x len))) 0 0 (zA (wX G ad σ T o n f x len)) := by
  refine zmkWi (w := (wX G ad σ T o n f x len)) hd (cc := cX4_quarrel) (maxL := 5) (by decide) rfl (Nat.le_of_ble_eq_true rfl) ?_
  intro pr en st mi ar bl me cd ls Q hx hb hml hown hts hG hP hl hD hS hret
  have hown : st.vm.findClass RX4 = some mi.cls := hown
  have hl : lv_has ls 5 [(0, .ref (ad 0 0)), (1, .int (nI e)), (2, .int (nI i)), (3, .int (nI 2))] := hl
  have hP : va_P G.1 vwCl (wX G ad σ T o n f x len) st.heap := hP
  have hD : va_D (zA (wX G ad σ T o n f x len)) (wX G ad σ T o n f x len) := hD
  have hinX4 : ∀ w ∈ wsX40, w ∈ wsX4_quarrel := by decide +kernel
  have hf10 := hts (.fieldLink RX4 10 "MapSheets" "now" "LMapSheets$Atlas;") (by decide +kernel)
  have hc := hO.c
  have hs := hO.lS
  have hr := hO.lR
  have hne := hO.lE
  have hve : 0 ≤ nI e ∧ nI e < nI (nE σ) := z_in he (by omega)
  have hvw : nI 0 ≤ nI 2 ∧ nI 2 ≤ nI 3 := by decide
  have hfs := hO.lF he
  have hda := fD_lt σ e
  have hdb := sD_lt σ e
  have hpl := pq_le σ e i
  refine lv_aload_n hx hb dX4_quarrel_0 rfl (lv_at hl 0 rfl) ?_
  refine va_get (D := G.1) (ci := 4) (v := .ref (ad 1 0)) (C := RX4) (T := TX4) (N := 4) hx hb hts hinX4 hown hG.1 hP 0 rfl rfl 0 (by decide) hf10 (fun _ h9 => h9) rfl dX4_quarrel_1 ?_
  refine lv_iload_n hx hb dX4_quarrel_4 rfl (lv_at hl 1 rfl) ?_
  refine zrdV (As := [.int (nI e)]) ⟨hx, hb, hml, hown, hts⟩ (kX0_hasEdge l G (ad 1) σ (nI e) (hO)) (cwV 1 hts gX4_quarrel_X0_hasEdge rfl rfl rfl (by decide +kernel) ⟨Nat.le_of_ble_eq_true rfl, Nat.le_of_ble_eq_true rfl⟩) hG (va_recv (q0 := 0) (ci := 0) hG.1 (wX_pA hP) rfl rfl) ((wX_pA hP)) rfl rfl hl.1 dX4_quarrel_5 (Nat.le_of_ble_eq_true rfl) ⟨Nat.le_of_ble_eq_true rfl, Nat.le_of_ble_eq_true rfl⟩ ?_
  refine lv_if_eq (tgt := 24) hx hb dX4_quarrel_8 (by decide) (fun h8 => ?_) (fun h8 => ?_)
  · skip
    have h8 : ¬ (0 ≤ (nI e) ∧ (nI e) < nI (nE σ)) := (z_b0).mp h8
    exact absurd hve h8
  · skip
    have h8 : ¬ (¬ (0 ≤ (nI e) ∧ (nI e) < nI (nE σ))) := fun q => h8 ((z_b0).mpr q)
    have h8 : 0 ≤ (nI e) ∧ (nI e) < nI (nE σ) := Decidable.of_not_not h8
    refine lv_iload_n hx hb dX4_quarrel_11 rfl (lv_at hl 2 rfl) ?_
    refine lv_if_lt (tgt := 24) hx hb dX4_quarrel_12 (by decide) (fun h12 => ?_) (fun h12 => ?_)
    · skip
      have h12 : False := (z_lt0 (by omega)).mp h12
      exfalso; omega
    · skip
      have h12 : ¬ (False) := fun q => h12 ((z_lt0 (by omega)).mpr q)
      refine lv_iload_n hx hb dX4_quarrel_15 rfl (lv_at hl 3 rfl) ?_
      refine lv_iconst (v := nI 0) hx hb dX4_quarrel_16 (by decide) ?_
      refine lv_iconst (v := nI 3) hx hb dX4_quarrel_17 (by decide) ?_
      refine zrdS (As := [.int (nI 2), .int (nI 0), .int (nI 3)]) ⟨hx, hb, hml, hown, hts⟩ (kX4_isWithin l G  (nI 2) (nI 0) (nI 3)) (va_cwS 3 hts gX4_quarrel_X4_isWithin rfl rfl rfl (by decide +kernel) ⟨Nat.le_of_ble_eq_true rfl, Nat.le_of_ble_eq_true rfl⟩) hG (trivial) rfl rfl hl.1 dX4_quarrel_18 (Nat.le_of_ble_eq_true rfl) ⟨Nat.le_of_ble_eq_true rfl, Nat.le_of_ble_eq_true rfl⟩ ?_
      refine lv_if_ne (tgt := 26) hx hb dX4_quarrel_21 (by decide) (fun h21 => ?_) (fun h21 => ?_)
      · skip
        have h21 : ¬ (¬ ((nI 0) ≤ (nI 2) ∧ (nI 2) ≤ (nI 3))) := fun q => h21 ((z_b0).mpr q)
        have h21 : (nI 0) ≤ (nI 2) ∧ (nI 2) ≤ (nI 3) := Decidable.of_not_not h21
        refine lv_aload_n hx hb dX4_quarrel_26 rfl (lv_at hl 0 rfl) ?_
        refine va_get (D := G.1) (ci := 4) (v := .ref (ad 1 0)) (C := RX4) (T := TX4) (N := 4) hx hb hts hinX4 hown hG.1 hP 0 rfl rfl 0 (by decide) hf10 (fun _ h9 => h9) rfl dX4_quarrel_27 ?_
        refine lv_iload_n hx hb dX4_quarrel_30 rfl (lv_at hl 1 rfl) ?_
        refine lv_iload_n hx hb dX4_quarrel_31 rfl (lv_at hl 2 rfl) ?_
        refine zrdV (As := [.int (nI e), .int (nI i)]) ⟨hx, hb, hml, hown, hts⟩ (kX0_positionOfQuarrel l G (ad 1) σ e i (hO) (by omega) (by omega)) (cwV 2 hts gX4_quarrel_X0_positionOfQuarrel rfl rfl rfl (by decide +kernel) ⟨Nat.le_of_ble_eq_true rfl, Nat.le_of_ble_eq_true rfl⟩) hG (va_recv (q0 := 0) (ci := 0) hG.1 (wX_pA hP) rfl rfl) ((wX_pA hP)) rfl rfl hl.1 dX4_quarrel_32 (Nat.le_of_ble_eq_true rfl) ⟨Nat.le_of_ble_eq_true rfl, Nat.le_of_ble_eq_true rfl⟩ ?_
        have hf32_0 := pq_le σ (e) (i)
        refine lv_istore (lv' := [(4, .int (zc 10 (pq σ e i))), (0, .ref (ad 0 0)), (1, .int (nI e)), (2, .int (nI i)), (3, .int (nI 2))]) hx hb dX4_quarrel_35 hl (by decide) rfl (fun ls hl => ?_)
        refine lv_iload hx hb dX4_quarrel_37 (lv_at hl 0 rfl) ?_
        refine lv_bipush (v := (-4)) hx hb dX4_quarrel_39 (by decide) ?_
        refine lv_icmp_ne (tgt := 47) hx hb dX4_quarrel_41 (by decide) (fun h41 => ?_) (fun h41 => ?_)
        · skip
          have h41 : ¬ (pq σ e i = 10) := fun q => h41 ((zc_m4 (by omega)).mpr q)
          exact absurd hq h41
        · skip
          have h41 : pq σ e i = 10 := (zc_m4 (by omega)).mp h41
          refine lv_bipush (v := (-4)) hx hb dX4_quarrel_44 (by decide) ?_
          exact hret _ _ _ _ _ dX4_quarrel_46 hS (hP) (rfl)
      · skip
        have h21 : ¬ ((nI 0) ≤ (nI 2) ∧ (nI 2) ≤ (nI 3)) := (z_b0).mp h21
        exact absurd hvw h21
set_option maxHeartbeats 4000000 in
set_option maxRecDepth 100000 in
theorem kX4_quarrel_2 (l : Launch) (G : zG) (ad : Nat → Nat → Nat) (σ : Nat → Nat) (T : Nat → Nat → Nat) (o n : Nat) (f : Nat → Int32) (x : Nat → Nat) (len : Nat) {N : Nat} (e : Nat) (i : Nat) (hO : Ok N σ) (ho : o < 5) (hn : n ≤ 4) (he : e < nE σ) (hi31 : i < 2 ^ 31) (hq : pq σ e i ≠ 10) (hd : va_D (fun _ => True) (wX G ad σ T o n f x len)) : Met l yX4_quarrel wsX4_quarrel (zRm 4 94) (zPc G [.ref (ad 0 0), .int (nI e), .int (nI i), .int (nI 2)] (va_P G.1 vwCl (wX G ad σ T o n f x len))) (zQ (zA (wX G ad σ T o n f x len)) (some (.int (zc 10 (mns σ (fS σ e) (fD σ e) (pq σ e i))))) (va_P G.1 vwCl (wX G ad σ T o n f x len))) 0 0 (zA (wX G ad σ T o n f x len)) := by
  refine zmkWi (w := (wX G ad σ T o n f x len)) hd (cc := cX4_quarrel) (maxL := 5) (by decide) rfl (Nat.le_of_ble_eq_true rfl) ?_
  intro pr en st mi ar bl me cd ls Q hx hb hml hown hts hG hP hl hD hS hret
  have hown : st.vm.findClass RX4 = some mi.cls := hown
  have hl : lv_has ls 5 [(0, .ref (ad 0 0)), (1, .int (nI e)), (2, .int (nI i)), (3, .int (nI 2))] := hl
  have hP : va_P G.1 vwCl (wX G ad σ T o n f x len) st.heap := hP
  have hD : va_D (zA (wX G ad σ T o n f x len)) (wX G ad σ T o n f x len) := hD
  have hinX4 : ∀ w ∈ wsX40, w ∈ wsX4_quarrel := by decide +kernel
  have hf10 := hts (.fieldLink RX4 10 "MapSheets" "now" "LMapSheets$Atlas;") (by decide +kernel)
  have hc := hO.c
  have hs := hO.lS
  have hr := hO.lR
  have hne := hO.lE
  have hve : 0 ≤ nI e ∧ nI e < nI (nE σ) := z_in he (by omega)
  have hvw : nI 0 ≤ nI 2 ∧ nI 2 ≤ nI 3 := by decide
  have hfs := hO.lF he
  have hda := fD_lt σ e
  have hdb := sD_lt σ e
  have hpl := pq_le σ e i
  refine lv_aload_n hx hb dX4_quarrel_0 rfl (lv_at hl 0 rfl) ?_
  refine va_get (D := G.1) (ci := 4) (v := .ref (ad 1 0)) (C := RX4) (T := TX4) (N := 4) hx hb hts hinX4 hown hG.1 hP 0 rfl rfl 0 (by decide) hf10 (fun _ h9 => h9) rfl dX4_quarrel_1 ?_
  refine lv_iload_n hx hb dX4_quarrel_4 rfl (lv_at hl 1 rfl) ?_
  refine zrdV (As := [.int (nI e)]) ⟨hx, hb, hml, hown, hts⟩ (kX0_hasEdge l G (ad 1) σ (nI e) (hO)) (cwV 1 hts gX4_quarrel_X0_hasEdge rfl rfl rfl (by decide +kernel) ⟨Nat.le_of_ble_eq_true rfl, Nat.le_of_ble_eq_true rfl⟩) hG (va_recv (q0 := 0) (ci := 0) hG.1 (wX_pA hP) rfl rfl) ((wX_pA hP)) rfl rfl hl.1 dX4_quarrel_5 (Nat.le_of_ble_eq_true rfl) ⟨Nat.le_of_ble_eq_true rfl, Nat.le_of_ble_eq_true rfl⟩ ?_
  refine lv_if_eq (tgt := 24) hx hb dX4_quarrel_8 (by decide) (fun h8 => ?_) (fun h8 => ?_)
  · skip
    have h8 : ¬ (0 ≤ (nI e) ∧ (nI e) < nI (nE σ)) := (z_b0).mp h8
    exact absurd hve h8
  · skip
    have h8 : ¬ (¬ (0 ≤ (nI e) ∧ (nI e) < nI (nE σ))) := fun q => h8 ((z_b0).mpr q)
    have h8 : 0 ≤ (nI e) ∧ (nI e) < nI (nE σ) := Decidable.of_not_not h8
    refine lv_iload_n hx hb dX4_quarrel_11 rfl (lv_at hl 2 rfl) ?_
    refine lv_if_lt (tgt := 24) hx hb dX4_quarrel_12 (by decide) (fun h12 => ?_) (fun h12 => ?_)
    · skip
      have h12 : False := (z_lt0 (by omega)).mp h12
      exfalso; omega
    · skip
      have h12 : ¬ (False) := fun q => h12 ((z_lt0 (by omega)).mpr q)
      refine lv_iload_n hx hb dX4_quarrel_15 rfl (lv_at hl 3 rfl) ?_
      refine lv_iconst (v := nI 0) hx hb dX4_quarrel_16 (by decide) ?_
      refine lv_iconst (v := nI 3) hx hb dX4_quarrel_17 (by decide) ?_
      refine zrdS (As := [.int (nI 2), .int (nI 0), .int (nI 3)]) ⟨hx, hb, hml, hown, hts⟩ (kX4_isWithin l G  (nI 2) (nI 0) (nI 3)) (va_cwS 3 hts gX4_quarrel_X4_isWithin rfl rfl rfl (by decide +kernel) ⟨Nat.le_of_ble_eq_true rfl, Nat.le_of_ble_eq_true rfl⟩) hG (trivial) rfl rfl hl.1 dX4_quarrel_18 (Nat.le_of_ble_eq_true rfl) ⟨Nat.le_of_ble_eq_true rfl, Nat.le_of_ble_eq_true rfl⟩ ?_
      refine lv_if_ne (tgt := 26) hx hb dX4_quarrel_21 (by decide) (fun h21 => ?_) (fun h21 => ?_)
      · skip
        have h21 : ¬ (¬ ((nI 0) ≤ (nI 2) ∧ (nI 2) ≤ (nI 3))) := fun q => h21 ((z_b0).mpr q)
        have h21 : (nI 0) ≤ (nI 2) ∧ (nI 2) ≤ (nI 3) := Decidable.of_not_not h21
        refine lv_aload_n hx hb dX4_quarrel_26 rfl (lv_at hl 0 rfl) ?_
        refine va_get (D := G.1) (ci := 4) (v := .ref (ad 1 0)) (C := RX4) (T := TX4) (N := 4) hx hb hts hinX4 hown hG.1 hP 0 rfl rfl 0 (by decide) hf10 (fun _ h9 => h9) rfl dX4_quarrel_27 ?_
        refine lv_iload_n hx hb dX4_quarrel_30 rfl (lv_at hl 1 rfl) ?_
        refine lv_iload_n hx hb dX4_quarrel_31 rfl (lv_at hl 2 rfl) ?_
        refine zrdV (As := [.int (nI e), .int (nI i)]) ⟨hx, hb, hml, hown, hts⟩ (kX0_positionOfQuarrel l G (ad 1) σ e i (hO) (by omega) (by omega)) (cwV 2 hts gX4_quarrel_X0_positionOfQuarrel rfl rfl rfl (by decide +kernel) ⟨Nat.le_of_ble_eq_true rfl, Nat.le_of_ble_eq_true rfl⟩) hG (va_recv (q0 := 0) (ci := 0) hG.1 (wX_pA hP) rfl rfl) ((wX_pA hP)) rfl rfl hl.1 dX4_quarrel_32 (Nat.le_of_ble_eq_true rfl) ⟨Nat.le_of_ble_eq_true rfl, Nat.le_of_ble_eq_true rfl⟩ ?_
        have hf32_0 := pq_le σ (e) (i)
        refine lv_istore (lv' := [(4, .int (zc 10 (pq σ e i))), (0, .ref (ad 0 0)), (1, .int (nI e)), (2, .int (nI i)), (3, .int (nI 2))]) hx hb dX4_quarrel_35 hl (by decide) rfl (fun ls hl => ?_)
        refine lv_iload hx hb dX4_quarrel_37 (lv_at hl 0 rfl) ?_
        refine lv_bipush (v := (-4)) hx hb dX4_quarrel_39 (by decide) ?_
        refine lv_icmp_ne (tgt := 47) hx hb dX4_quarrel_41 (by decide) (fun h41 => ?_) (fun h41 => ?_)
        · skip
          have h41 : ¬ (pq σ e i = 10) := fun q => h41 ((zc_m4 (by omega)).mpr q)
          rw [show zc 10 (pq σ e i) = nI (pq σ e i) from zc_n hq] at hl
          refine lv_iload_n hx hb dX4_quarrel_47 rfl (lv_at hl 4 rfl) ?_
          refine lv_tableIn (off := 42) (tgt := 90) hx hb dX4_quarrel_48 (by decide) (by decide) (by decide) (by decide) ?_
          refine lv_aload_n hx hb dX4_quarrel_90 rfl (lv_at hl 1 rfl) ?_
          refine va_get (D := G.1) (ci := 4) (v := .ref (ad 1 0)) (C := RX4) (T := TX4) (N := 4) hx hb hts hinX4 hown hG.1 hP 0 rfl rfl 0 (by decide) hf10 (fun _ h9 => h9) rfl dX4_quarrel_91 ?_
          refine lv_aload_n hx hb dX4_quarrel_94 rfl (lv_at hl 1 rfl) ?_
          refine va_get (D := G.1) (ci := 4) (v := .ref (ad 1 0)) (C := RX4) (T := TX4) (N := 4) hx hb hts hinX4 hown hG.1 hP 0 rfl rfl 0 (by decide) hf10 (fun _ h9 => h9) rfl dX4_quarrel_95 ?_
          refine lv_iload_n hx hb dX4_quarrel_98 rfl (lv_at hl 2 rfl) ?_
          refine zrdV (As := [.int (nI e)]) ⟨hx, hb, hml, hown, hts⟩ (kX0_firstSheet l G (ad 1) σ e (hO) (by omega)) (cwV 1 hts gX4_quarrel_X0_firstSheet rfl rfl rfl (by decide +kernel) ⟨Nat.le_of_ble_eq_true rfl, Nat.le_of_ble_eq_true rfl⟩) hG (va_recv (q0 := 0) (ci := 0) hG.1 (wX_pA hP) rfl rfl) ((wX_pA hP)) rfl rfl hl.1 dX4_quarrel_99 (Nat.le_of_ble_eq_true rfl) ⟨Nat.le_of_ble_eq_true rfl, Nat.le_of_ble_eq_true rfl⟩ ?_
          have hf99_0 := hO.lF (show e < nE σ by omega)
          refine lv_aload_n hx hb dX4_quarrel_102 rfl (lv_at hl 1 rfl) ?_
          refine va_get (D := G.1) (ci := 4) (v := .ref (ad 1 0)) (C := RX4) (T := TX4) (N := 4) hx hb hts hinX4 hown hG.1 hP 0 rfl rfl 0 (by decide) hf10 (fun _ h9 => h9) rfl dX4_quarrel_103 ?_
          refine lv_iload_n hx hb dX4_quarrel_106 rfl (lv_at hl 2 rfl) ?_
          refine zrdV (As := [.int (nI e)]) ⟨hx, hb, hml, hown, hts⟩ (kX0_firstSide l G (ad 1) σ e (hO) (by omega)) (cwV 1 hts gX4_quarrel_X0_firstSide rfl rfl rfl (by decide +kernel) ⟨Nat.le_of_ble_eq_true rfl, Nat.le_of_ble_eq_true rfl⟩) hG (va_recv (q0 := 0) (ci := 0) hG.1 (wX_pA hP) rfl rfl) ((wX_pA hP)) rfl rfl hl.1 dX4_quarrel_107 (Nat.le_of_ble_eq_true rfl) ⟨Nat.le_of_ble_eq_true rfl, Nat.le_of_ble_eq_true rfl⟩ ?_
          refine lv_iload hx hb dX4_quarrel_110 (lv_at hl 0 rfl) ?_
          refine zrdV (As := [.int (nI (fS σ e)), .int (nI (fD σ e)), .int (nI (pq σ e i))]) ⟨hx, hb, hml, hown, hts⟩ (kX0_meaningAt l G (ad 1) σ (fS σ e) (fD σ e) (pq σ e i) (hO) (by omega) (by omega) (by omega)) (cwV 3 hts gX4_quarrel_X0_meaningAt rfl rfl rfl (by decide +kernel) ⟨Nat.le_of_ble_eq_true rfl, Nat.le_of_ble_eq_true rfl⟩) hG (va_recv (q0 := 0) (ci := 0) hG.1 (wX_pA hP) rfl rfl) ((wX_pA hP)) rfl rfl hl.1 dX4_quarrel_112 (Nat.le_of_ble_eq_true rfl) ⟨Nat.le_of_ble_eq_true rfl, Nat.le_of_ble_eq_true rfl⟩ ?_
          have hf112_0 := hO.mn (show (fS σ e) < 36 by omega) (show (fD σ e) < 4 by omega) (show (pq σ e i) < 10 by omega)
          exact hret _ _ _ _ _ dX4_quarrel_115 hS (hP) (rfl)
        · skip
          have h41 : pq σ e i = 10 := (zc_m4 (by omega)).mp h41
          exact absurd h41 hq
      · skip
        have h21 : ¬ ((nI 0) ≤ (nI 2) ∧ (nI 2) ≤ (nI 3)) := (z_b0).mp h21
        exact absurd hvw h21
set_option maxHeartbeats 4000000 in
set_option maxRecDepth 100000 in
theorem kX4_quarrel_none3 (l : Launch) (G : zG) (ad : Nat → Nat → Nat) (σ : Nat → Nat) (T : Nat → Nat → Nat) (o n : Nat) (f : Nat → Int32) (x : Nat → Nat) (len : Nat) {N : Nat} (e : Nat) (i : Nat) (hO : Ok N σ) (ho : o < 5) (hn : n ≤ 4) (he : e < nE σ) (hi31 : i < 2 ^ 31) (hq : pq σ e i = 10) (hd : va_D (fun _ => True) (wX G ad σ T o n f x len)) : Met l yX4_quarrel wsX4_quarrel (zRm 4 94) (zPc G [.ref (ad 0 0), .int (nI e), .int (nI i), .int (nI 3)] (va_P G.1 vwCl (wX G ad σ T o n f x len))) (zQ (zA (wX G ad σ T o n f x len)) (some (.int ((-4)))) (va_P G.1 vwCl (wX G ad σ T o n f x len))) 0 0 (zA (wX G ad σ T o n f x len)) := by
  refine zmkWi (w := (wX G ad σ T o n f x len)) hd (cc := cX4_quarrel) (maxL := 5) (by decide) rfl (Nat.le_of_ble_eq_true rfl) ?_
  intro pr en st mi ar bl me cd ls Q hx hb hml hown hts hG hP hl hD hS hret
  have hown : st.vm.findClass RX4 = some mi.cls := hown
  have hl : lv_has ls 5 [(0, .ref (ad 0 0)), (1, .int (nI e)), (2, .int (nI i)), (3, .int (nI 3))] := hl
  have hP : va_P G.1 vwCl (wX G ad σ T o n f x len) st.heap := hP
  have hD : va_D (zA (wX G ad σ T o n f x len)) (wX G ad σ T o n f x len) := hD
  have hinX4 : ∀ w ∈ wsX40, w ∈ wsX4_quarrel := by decide +kernel
  have hf10 := hts (.fieldLink RX4 10 "MapSheets" "now" "LMapSheets$Atlas;") (by decide +kernel)
  have hc := hO.c
  have hs := hO.lS
  have hr := hO.lR
  have hne := hO.lE
  have hve : 0 ≤ nI e ∧ nI e < nI (nE σ) := z_in he (by omega)
  have hvw : nI 0 ≤ nI 3 ∧ nI 3 ≤ nI 3 := by decide
  have hfs := hO.lF he
  have hda := fD_lt σ e
  have hdb := sD_lt σ e
  have hpl := pq_le σ e i
  refine lv_aload_n hx hb dX4_quarrel_0 rfl (lv_at hl 0 rfl) ?_
  refine va_get (D := G.1) (ci := 4) (v := .ref (ad 1 0)) (C := RX4) (T := TX4) (N := 4) hx hb hts hinX4 hown hG.1 hP 0 rfl rfl 0 (by decide) hf10 (fun _ h9 => h9) rfl dX4_quarrel_1 ?_
  refine lv_iload_n hx hb dX4_quarrel_4 rfl (lv_at hl 1 rfl) ?_
  refine zrdV (As := [.int (nI e)]) ⟨hx, hb, hml, hown, hts⟩ (kX0_hasEdge l G (ad 1) σ (nI e) (hO)) (cwV 1 hts gX4_quarrel_X0_hasEdge rfl rfl rfl (by decide +kernel) ⟨Nat.le_of_ble_eq_true rfl, Nat.le_of_ble_eq_true rfl⟩) hG (va_recv (q0 := 0) (ci := 0) hG.1 (wX_pA hP) rfl rfl) ((wX_pA hP)) rfl rfl hl.1 dX4_quarrel_5 (Nat.le_of_ble_eq_true rfl) ⟨Nat.le_of_ble_eq_true rfl, Nat.le_of_ble_eq_true rfl⟩ ?_
  refine lv_if_eq (tgt := 24) hx hb dX4_quarrel_8 (by decide) (fun h8 => ?_) (fun h8 => ?_)
  · skip
    have h8 : ¬ (0 ≤ (nI e) ∧ (nI e) < nI (nE σ)) := (z_b0).mp h8
    exact absurd hve h8
  · skip
    have h8 : ¬ (¬ (0 ≤ (nI e) ∧ (nI e) < nI (nE σ))) := fun q => h8 ((z_b0).mpr q)
    have h8 : 0 ≤ (nI e) ∧ (nI e) < nI (nE σ) := Decidable.of_not_not h8
    refine lv_iload_n hx hb dX4_quarrel_11 rfl (lv_at hl 2 rfl) ?_
    refine lv_if_lt (tgt := 24) hx hb dX4_quarrel_12 (by decide) (fun h12 => ?_) (fun h12 => ?_)
    · skip
      have h12 : False := (z_lt0 (by omega)).mp h12
      exfalso; omega
    · skip
      have h12 : ¬ (False) := fun q => h12 ((z_lt0 (by omega)).mpr q)
      refine lv_iload_n hx hb dX4_quarrel_15 rfl (lv_at hl 3 rfl) ?_
      refine lv_iconst (v := nI 0) hx hb dX4_quarrel_16 (by decide) ?_
      refine lv_iconst (v := nI 3) hx hb dX4_quarrel_17 (by decide) ?_
      refine zrdS (As := [.int (nI 3), .int (nI 0), .int (nI 3)]) ⟨hx, hb, hml, hown, hts⟩ (kX4_isWithin l G  (nI 3) (nI 0) (nI 3)) (va_cwS 3 hts gX4_quarrel_X4_isWithin rfl rfl rfl (by decide +kernel) ⟨Nat.le_of_ble_eq_true rfl, Nat.le_of_ble_eq_true rfl⟩) hG (trivial) rfl rfl hl.1 dX4_quarrel_18 (Nat.le_of_ble_eq_true rfl) ⟨Nat.le_of_ble_eq_true rfl, Nat.le_of_ble_eq_true rfl⟩ ?_
      refine lv_if_ne (tgt := 26) hx hb dX4_quarrel_21 (by decide) (fun h21 => ?_) (fun h21 => ?_)
      · skip
        have h21 : ¬ (¬ ((nI 0) ≤ (nI 3) ∧ (nI 3) ≤ (nI 3))) := fun q => h21 ((z_b0).mpr q)
        have h21 : (nI 0) ≤ (nI 3) ∧ (nI 3) ≤ (nI 3) := Decidable.of_not_not h21
        refine lv_aload_n hx hb dX4_quarrel_26 rfl (lv_at hl 0 rfl) ?_
        refine va_get (D := G.1) (ci := 4) (v := .ref (ad 1 0)) (C := RX4) (T := TX4) (N := 4) hx hb hts hinX4 hown hG.1 hP 0 rfl rfl 0 (by decide) hf10 (fun _ h9 => h9) rfl dX4_quarrel_27 ?_
        refine lv_iload_n hx hb dX4_quarrel_30 rfl (lv_at hl 1 rfl) ?_
        refine lv_iload_n hx hb dX4_quarrel_31 rfl (lv_at hl 2 rfl) ?_
        refine zrdV (As := [.int (nI e), .int (nI i)]) ⟨hx, hb, hml, hown, hts⟩ (kX0_positionOfQuarrel l G (ad 1) σ e i (hO) (by omega) (by omega)) (cwV 2 hts gX4_quarrel_X0_positionOfQuarrel rfl rfl rfl (by decide +kernel) ⟨Nat.le_of_ble_eq_true rfl, Nat.le_of_ble_eq_true rfl⟩) hG (va_recv (q0 := 0) (ci := 0) hG.1 (wX_pA hP) rfl rfl) ((wX_pA hP)) rfl rfl hl.1 dX4_quarrel_32 (Nat.le_of_ble_eq_true rfl) ⟨Nat.le_of_ble_eq_true rfl, Nat.le_of_ble_eq_true rfl⟩ ?_
        have hf32_0 := pq_le σ (e) (i)
        refine lv_istore (lv' := [(4, .int (zc 10 (pq σ e i))), (0, .ref (ad 0 0)), (1, .int (nI e)), (2, .int (nI i)), (3, .int (nI 3))]) hx hb dX4_quarrel_35 hl (by decide) rfl (fun ls hl => ?_)
        refine lv_iload hx hb dX4_quarrel_37 (lv_at hl 0 rfl) ?_
        refine lv_bipush (v := (-4)) hx hb dX4_quarrel_39 (by decide) ?_
        refine lv_icmp_ne (tgt := 47) hx hb dX4_quarrel_41 (by decide) (fun h41 => ?_) (fun h41 => ?_)
        · skip
          have h41 : ¬ (pq σ e i = 10) := fun q => h41 ((zc_m4 (by omega)).mpr q)
          exact absurd hq h41
        · skip
          have h41 : pq σ e i = 10 := (zc_m4 (by omega)).mp h41
          refine lv_bipush (v := (-4)) hx hb dX4_quarrel_44 (by decide) ?_
          exact hret _ _ _ _ _ dX4_quarrel_46 hS (hP) (rfl)
      · skip
        have h21 : ¬ ((nI 0) ≤ (nI 3) ∧ (nI 3) ≤ (nI 3)) := (z_b0).mp h21
        exact absurd hvw h21
set_option maxHeartbeats 4000000 in
set_option maxRecDepth 100000 in
theorem kX4_quarrel_3 (l : Launch) (G : zG) (ad : Nat → Nat → Nat) (σ : Nat → Nat) (T : Nat → Nat → Nat) (o n : Nat) (f : Nat → Int32) (x : Nat → Nat) (len : Nat) {N : Nat} (e : Nat) (i : Nat) (hO : Ok N σ) (ho : o < 5) (hn : n ≤ 4) (he : e < nE σ) (hi31 : i < 2 ^ 31) (hq : pq σ e i ≠ 10) (hd : va_D (fun _ => True) (wX G ad σ T o n f x len)) : Met l yX4_quarrel wsX4_quarrel (zRm 4 94) (zPc G [.ref (ad 0 0), .int (nI e), .int (nI i), .int (nI 3)] (va_P G.1 vwCl (wX G ad σ T o n f x len))) (zQ (zA (wX G ad σ T o n f x len)) (some (.int (zc 10 (mns σ (sS σ e) (sD σ e) (pq σ e i))))) (va_P G.1 vwCl (wX G ad σ T o n f x len))) 0 0 (zA (wX G ad σ T o n f x len)) := by
  refine zmkWi (w := (wX G ad σ T o n f x len)) hd (cc := cX4_quarrel) (maxL := 5) (by decide) rfl (Nat.le_of_ble_eq_true rfl) ?_
  intro pr en st mi ar bl me cd ls Q hx hb hml hown hts hG hP hl hD hS hret
  have hown : st.vm.findClass RX4 = some mi.cls := hown
  have hl : lv_has ls 5 [(0, .ref (ad 0 0)), (1, .int (nI e)), (2, .int (nI i)), (3, .int (nI 3))] := hl
  have hP : va_P G.1 vwCl (wX G ad σ T o n f x len) st.heap := hP
  have hD : va_D (zA (wX G ad σ T o n f x len)) (wX G ad σ T o n f x len) := hD
  have hinX4 : ∀ w ∈ wsX40, w ∈ wsX4_quarrel := by decide +kernel
  have hf10 := hts (.fieldLink RX4 10 "MapSheets" "now" "LMapSheets$Atlas;") (by decide +kernel)
  have hc := hO.c
  have hs := hO.lS
  have hr := hO.lR
  have hne := hO.lE
  have hve : 0 ≤ nI e ∧ nI e < nI (nE σ) := z_in he (by omega)
  have hvw : nI 0 ≤ nI 3 ∧ nI 3 ≤ nI 3 := by decide
  have hfs := hO.lF he
  have hda := fD_lt σ e
  have hdb := sD_lt σ e
  have hpl := pq_le σ e i
  refine lv_aload_n hx hb dX4_quarrel_0 rfl (lv_at hl 0 rfl) ?_
  refine va_get (D := G.1) (ci := 4) (v := .ref (ad 1 0)) (C := RX4) (T := TX4) (N := 4) hx hb hts hinX4 hown hG.1 hP 0 rfl rfl 0 (by decide) hf10 (fun _ h9 => h9) rfl dX4_quarrel_1 ?_
  refine lv_iload_n hx hb dX4_quarrel_4 rfl (lv_at hl 1 rfl) ?_
  refine zrdV (As := [.int (nI e)]) ⟨hx, hb, hml, hown, hts⟩ (kX0_hasEdge l G (ad 1) σ (nI e) (hO)) (cwV 1 hts gX4_quarrel_X0_hasEdge rfl rfl rfl (by decide +kernel) ⟨Nat.le_of_ble_eq_true rfl, Nat.le_of_ble_eq_true rfl⟩) hG (va_recv (q0 := 0) (ci := 0) hG.1 (wX_pA hP) rfl rfl) ((wX_pA hP)) rfl rfl hl.1 dX4_quarrel_5 (Nat.le_of_ble_eq_true rfl) ⟨Nat.le_of_ble_eq_true rfl, Nat.le_of_ble_eq_true rfl⟩ ?_
  refine lv_if_eq (tgt := 24) hx hb dX4_quarrel_8 (by decide) (fun h8 => ?_) (fun h8 => ?_)
  · skip
    have h8 : ¬ (0 ≤ (nI e) ∧ (nI e) < nI (nE σ)) := (z_b0).mp h8
    exact absurd hve h8
  · skip
    have h8 : ¬ (¬ (0 ≤ (nI e) ∧ (nI e) < nI (nE σ))) := fun q => h8 ((z_b0).mpr q)
    have h8 : 0 ≤ (nI e) ∧ (nI e) < nI (nE σ) := Decidable.of_not_not h8
    refine lv_iload_n hx hb dX4_quarrel_11 rfl (lv_at hl 2 rfl) ?_
    refine lv_if_lt (tgt := 24) hx hb dX4_quarrel_12 (by decide) (fun h12 => ?_) (fun h12 => ?_)
    · skip
      have h12 : False := (z_lt0 (by omega)).mp h12
      exfalso; omega
    · skip
      have h12 : ¬ (False) := fun q => h12 ((z_lt0 (by omega)).mpr q)
      refine lv_iload_n hx hb dX4_quarrel_15 rfl (lv_at hl 3 rfl) ?_
      refine lv_iconst (v := nI 0) hx hb dX4_quarrel_16 (by decide) ?_
      refine lv_iconst (v := nI 3) hx hb dX4_quarrel_17 (by decide) ?_
      refine zrdS (As := [.int (nI 3), .int (nI 0), .int (nI 3)]) ⟨hx, hb, hml, hown, hts⟩ (kX4_isWithin l G  (nI 3) (nI 0) (nI 3)) (va_cwS 3 hts gX4_quarrel_X4_isWithin rfl rfl rfl (by decide +kernel) ⟨Nat.le_of_ble_eq_true rfl, Nat.le_of_ble_eq_true rfl⟩) hG (trivial) rfl rfl hl.1 dX4_quarrel_18 (Nat.le_of_ble_eq_true rfl) ⟨Nat.le_of_ble_eq_true rfl, Nat.le_of_ble_eq_true rfl⟩ ?_
      refine lv_if_ne (tgt := 26) hx hb dX4_quarrel_21 (by decide) (fun h21 => ?_) (fun h21 => ?_)
      · skip
        have h21 : ¬ (¬ ((nI 0) ≤ (nI 3) ∧ (nI 3) ≤ (nI 3))) := fun q => h21 ((z_b0).mpr q)
        have h21 : (nI 0) ≤ (nI 3) ∧ (nI 3) ≤ (nI 3) := Decidable.of_not_not h21
        refine lv_aload_n hx hb dX4_quarrel_26 rfl (lv_at hl 0 rfl) ?_
        refine va_get (D := G.1) (ci := 4) (v := .ref (ad 1 0)) (C := RX4) (T := TX4) (N := 4) hx hb hts hinX4 hown hG.1 hP 0 rfl rfl 0 (by decide) hf10 (fun _ h9 => h9) rfl dX4_quarrel_27 ?_
        refine lv_iload_n hx hb dX4_quarrel_30 rfl (lv_at hl 1 rfl) ?_
        refine lv_iload_n hx hb dX4_quarrel_31 rfl (lv_at hl 2 rfl) ?_
        refine zrdV (As := [.int (nI e), .int (nI i)]) ⟨hx, hb, hml, hown, hts⟩ (kX0_positionOfQuarrel l G (ad 1) σ e i (hO) (by omega) (by omega)) (cwV 2 hts gX4_quarrel_X0_positionOfQuarrel rfl rfl rfl (by decide +kernel) ⟨Nat.le_of_ble_eq_true rfl, Nat.le_of_ble_eq_true rfl⟩) hG (va_recv (q0 := 0) (ci := 0) hG.1 (wX_pA hP) rfl rfl) ((wX_pA hP)) rfl rfl hl.1 dX4_quarrel_32 (Nat.le_of_ble_eq_true rfl) ⟨Nat.le_of_ble_eq_true rfl, Nat.le_of_ble_eq_true rfl⟩ ?_
        have hf32_0 := pq_le σ (e) (i)
        refine lv_istore (lv' := [(4, .int (zc 10 (pq σ e i))), (0, .ref (ad 0 0)), (1, .int (nI e)), (2, .int (nI i)), (3, .int (nI 3))]) hx hb dX4_quarrel_35 hl (by decide) rfl (fun ls hl => ?_)
        refine lv_iload hx hb dX4_quarrel_37 (lv_at hl 0 rfl) ?_
        refine lv_bipush (v := (-4)) hx hb dX4_quarrel_39 (by decide) ?_
        refine lv_icmp_ne (tgt := 47) hx hb dX4_quarrel_41 (by decide) (fun h41 => ?_) (fun h41 => ?_)
        · skip
          have h41 : ¬ (pq σ e i = 10) := fun q => h41 ((zc_m4 (by omega)).mpr q)
          rw [show zc 10 (pq σ e i) = nI (pq σ e i) from zc_n hq] at hl
          refine lv_iload_n hx hb dX4_quarrel_47 rfl (lv_at hl 4 rfl) ?_
          refine lv_tableOut (tgt := 116) hx hb dX4_quarrel_48 (Or.inr (by decide)) (by decide) ?_
          refine lv_aload_n hx hb dX4_quarrel_116 rfl (lv_at hl 1 rfl) ?_
          refine va_get (D := G.1) (ci := 4) (v := .ref (ad 1 0)) (C := RX4) (T := TX4) (N := 4) hx hb hts hinX4 hown hG.1 hP 0 rfl rfl 0 (by decide) hf10 (fun _ h9 => h9) rfl dX4_quarrel_117 ?_
          refine lv_aload_n hx hb dX4_quarrel_120 rfl (lv_at hl 1 rfl) ?_
          refine va_get (D := G.1) (ci := 4) (v := .ref (ad 1 0)) (C := RX4) (T := TX4) (N := 4) hx hb hts hinX4 hown hG.1 hP 0 rfl rfl 0 (by decide) hf10 (fun _ h9 => h9) rfl dX4_quarrel_121 ?_
          refine lv_iload_n hx hb dX4_quarrel_124 rfl (lv_at hl 2 rfl) ?_
          refine zrdV (As := [.int (nI e)]) ⟨hx, hb, hml, hown, hts⟩ (kX0_secondSheet l G (ad 1) σ e (hO) (by omega)) (cwV 1 hts gX4_quarrel_X0_secondSheet rfl rfl rfl (by decide +kernel) ⟨Nat.le_of_ble_eq_true rfl, Nat.le_of_ble_eq_true rfl⟩) hG (va_recv (q0 := 0) (ci := 0) hG.1 (wX_pA hP) rfl rfl) ((wX_pA hP)) rfl rfl hl.1 dX4_quarrel_125 (Nat.le_of_ble_eq_true rfl) ⟨Nat.le_of_ble_eq_true rfl, Nat.le_of_ble_eq_true rfl⟩ ?_
          have hf125_0 := hO.lF (show e < nE σ by omega)
          refine lv_aload_n hx hb dX4_quarrel_128 rfl (lv_at hl 1 rfl) ?_
          refine va_get (D := G.1) (ci := 4) (v := .ref (ad 1 0)) (C := RX4) (T := TX4) (N := 4) hx hb hts hinX4 hown hG.1 hP 0 rfl rfl 0 (by decide) hf10 (fun _ h9 => h9) rfl dX4_quarrel_129 ?_
          refine lv_iload_n hx hb dX4_quarrel_132 rfl (lv_at hl 2 rfl) ?_
          refine zrdV (As := [.int (nI e)]) ⟨hx, hb, hml, hown, hts⟩ (kX0_secondSide l G (ad 1) σ e (hO) (by omega)) (cwV 1 hts gX4_quarrel_X0_secondSide rfl rfl rfl (by decide +kernel) ⟨Nat.le_of_ble_eq_true rfl, Nat.le_of_ble_eq_true rfl⟩) hG (va_recv (q0 := 0) (ci := 0) hG.1 (wX_pA hP) rfl rfl) ((wX_pA hP)) rfl rfl hl.1 dX4_quarrel_133 (Nat.le_of_ble_eq_true rfl) ⟨Nat.le_of_ble_eq_true rfl, Nat.le_of_ble_eq_true rfl⟩ ?_
          refine lv_iload hx hb dX4_quarrel_136 (lv_at hl 0 rfl) ?_
          refine zrdV (As := [.int (nI (sS σ e)), .int (nI (sD σ e)), .int (nI (pq σ e i))]) ⟨hx, hb, hml, hown, hts⟩ (kX0_meaningAt l G (ad 1) σ (sS σ e) (sD σ e) (pq σ e i) (hO) (by omega) (by omega) (by omega)) (cwV 3 hts gX4_quarrel_X0_meaningAt rfl rfl rfl (by decide +kernel) ⟨Nat.le_of_ble_eq_true rfl, Nat.le_of_ble_eq_true rfl⟩) hG (va_recv (q0 := 0) (ci := 0) hG.1 (wX_pA hP) rfl rfl) ((wX_pA hP)) rfl rfl hl.1 dX4_quarrel_138 (Nat.le_of_ble_eq_true rfl) ⟨Nat.le_of_ble_eq_true rfl, Nat.le_of_ble_eq_true rfl⟩ ?_
          have hf138_0 := hO.mn (show (sS σ e) < 36 by omega) (show (sD σ e) < 4 by omega) (show (pq σ e i) < 10 by omega)
          exact hret _ _ _ _ _ dX4_quarrel_141 hS (hP) (rfl)
        · skip
          have h41 : pq σ e i = 10 := (zc_m4 (by omega)).mp h41
          exact absurd h41 hq
      · skip
        have h21 : ¬ ((nI 0) ≤ (nI 3) ∧ (nI 3) ≤ (nI 3)) := (z_b0).mp h21
        exact absurd hvw h21
set_option maxHeartbeats 4000000 in
set_option maxRecDepth 100000 in
theorem kX4_publish_inv (l : Launch) (G : zG) (ad : Nat → Nat → Nat) (σ : Nat → Nat) (T : Nat → Nat → Nat) (o n : Nat) (f : Nat → Int32) (x : Nat → Nat) (len : Nat) {N : Nat} (x1 : Int32) (hO : Ok N σ) (ho : o < 5) (hn : n ≤ 4) (hv : ¬ (0 ≤ x1 ∧ x1 < nI (nS σ))) (hd : va_D (fun _ => True) (wX G ad σ T o n f x len)) : Met l yX4_publish wsX4_publish (zRm 4 104) (zPc G [.ref (ad 0 0), .int x1] (va_P G.1 vwCl (wX G ad σ T o n f x len))) (zQ (zA (wX G ad σ T o n f x len)) (some (.int ((-1)))) (va_P G.1 vwCl (wX G ad σ T o n f x len))) 0 0 (zA (wX G ad σ T o n f x len)) := by
  refine zmkWi (w := (wX G ad σ T o n f x len)) hd (cc := cX4_publish) (maxL := 2) (by decide) rfl (Nat.le_of_ble_eq_true rfl) ?_
  intro pr en st mi ar bl me cd ls Q hx hb hml hown hts hG hP hl hD hS hret
  have hown : st.vm.findClass RX4 = some mi.cls := hown
  have hl : lv_has ls 2 [(0, .ref (ad 0 0)), (1, .int x1)] := hl
  have hP : va_P G.1 vwCl (wX G ad σ T o n f x len) st.heap := hP
  have hD : va_D (zA (wX G ad σ T o n f x len)) (wX G ad σ T o n f x len) := hD
  have hinX4 : ∀ w ∈ wsX40, w ∈ wsX4_publish := by decide +kernel
  have hf10 := hts (.fieldLink RX4 10 "MapSheets" "now" "LMapSheets$Atlas;") (by decide +kernel)
  have hc := hO.c
  have hs := hO.lS
  have hr := hO.lR
  have hne := hO.lE
  refine lv_aload_n hx hb dX4_publish_0 rfl (lv_at hl 0 rfl) ?_
  refine va_get (D := G.1) (ci := 4) (v := .ref (ad 1 0)) (C := RX4) (T := TX4) (N := 4) hx hb hts hinX4 hown hG.1 hP 0 rfl rfl 0 (by decide) hf10 (fun _ h9 => h9) rfl dX4_publish_1 ?_
  refine lv_iload_n hx hb dX4_publish_4 rfl (lv_at hl 1 rfl) ?_
  refine zrdV (As := [.int x1]) ⟨hx, hb, hml, hown, hts⟩ (kX0_hasSheet l G (ad 1) σ x1) (cwV 1 hts gX4_publish_X0_hasSheet rfl rfl rfl (by decide +kernel) ⟨Nat.le_of_ble_eq_true rfl, Nat.le_of_ble_eq_true rfl⟩) hG (va_recv (q0 := 0) (ci := 0) hG.1 (wX_pA hP) rfl rfl) ((wX_pA hP)) rfl rfl hl.1 dX4_publish_5 (Nat.le_of_ble_eq_true rfl) ⟨Nat.le_of_ble_eq_true rfl, Nat.le_of_ble_eq_true rfl⟩ ?_
  refine lv_if_ne (tgt := 13) hx hb dX4_publish_8 (by decide) (fun h8 => ?_) (fun h8 => ?_)
  · skip
    have h8 : ¬ (¬ (0 ≤ x1 ∧ x1 < nI (nS σ))) := fun q => h8 ((z_b0).mpr q)
    have h8 : 0 ≤ x1 ∧ x1 < nI (nS σ) := Decidable.of_not_not h8
    exact absurd h8 hv
  · skip
    have h8 : ¬ (0 ≤ x1 ∧ x1 < nI (nS σ)) := (z_b0).mp h8
    refine lv_iconst (v := (-1)) hx hb dX4_publish_11 (by decide) ?_
    exact hret _ _ _ _ _ dX4_publish_12 hS (hP) (rfl)
set_option maxHeartbeats 4000000 in
set_option maxRecDepth 100000 in
theorem kX4_publish_no (l : Launch) (G : zG) (ad : Nat → Nat → Nat) (σ : Nat → Nat) (T : Nat → Nat → Nat) (o n : Nat) (f : Nat → Int32) (x : Nat → Nat) (len : Nat) {N : Nat} (k : Nat) (hO : Ok N σ) (ho : o < 5) (hn : n ≤ 4) (hk : k < nS σ) (hq : nAd σ k < nEd σ k) (hd : va_D (fun _ => True) (wX G ad σ T o n f x len)) : Met l yX4_publish wsX4_publish (zRm 4 104) (zPc G [.ref (ad 0 0), .int (nI k)] (va_P G.1 vwCl (wX G ad σ T o n f x len))) (zQ (zA (wX G ad σ T o n f x len)) (some (.int ((-2)))) (va_P G.1 vwCl (wX G ad σ T o n f x len))) 0 0 (zA (wX G ad σ T o n f x len)) := by
  refine zmkWi (w := (wX G ad σ T o n f x len)) hd (cc := cX4_publish) (maxL := 2) (by decide) rfl (Nat.le_of_ble_eq_true rfl) ?_
  intro pr en st mi ar bl me cd ls Q hx hb hml hown hts hG hP hl hD hS hret
  have hown : st.vm.findClass RX4 = some mi.cls := hown
  have hl : lv_has ls 2 [(0, .ref (ad 0 0)), (1, .int (nI k))] := hl
  have hP : va_P G.1 vwCl (wX G ad σ T o n f x len) st.heap := hP
  have hD : va_D (zA (wX G ad σ T o n f x len)) (wX G ad σ T o n f x len) := hD
  have hinX4 : ∀ w ∈ wsX40, w ∈ wsX4_publish := by decide +kernel
  have hf10 := hts (.fieldLink RX4 10 "MapSheets" "now" "LMapSheets$Atlas;") (by decide +kernel)
  have hc := hO.c
  have hs := hO.lS
  have hr := hO.lR
  have hne := hO.lE
  have hvs : 0 ≤ nI k ∧ nI k < nI (nS σ) := z_in hk (by omega)
  have hna := nAd_le σ k
  have hne4 := nEd_le σ k
  refine lv_aload_n hx hb dX4_publish_0 rfl (lv_at hl 0 rfl) ?_
  refine va_get (D := G.1) (ci := 4) (v := .ref (ad 1 0)) (C := RX4) (T := TX4) (N := 4) hx hb hts hinX4 hown hG.1 hP 0 rfl rfl 0 (by decide) hf10 (fun _ h9 => h9) rfl dX4_publish_1 ?_
  refine lv_iload_n hx hb dX4_publish_4 rfl (lv_at hl 1 rfl) ?_
  refine zrdV (As := [.int (nI k)]) ⟨hx, hb, hml, hown, hts⟩ (kX0_hasSheet l G (ad 1) σ (nI k)) (cwV 1 hts gX4_publish_X0_hasSheet rfl rfl rfl (by decide +kernel) ⟨Nat.le_of_ble_eq_true rfl, Nat.le_of_ble_eq_true rfl⟩) hG (va_recv (q0 := 0) (ci := 0) hG.1 (wX_pA hP) rfl rfl) ((wX_pA hP)) rfl rfl hl.1 dX4_publish_5 (Nat.le_of_ble_eq_true rfl) ⟨Nat.le_of_ble_eq_true rfl, Nat.le_of_ble_eq_true rfl⟩ ?_
  refine lv_if_ne (tgt := 13) hx hb dX4_publish_8 (by decide) (fun h8 => ?_) (fun h8 => ?_)
  · skip
    have h8 : ¬ (¬ (0 ≤ (nI k) ∧ (nI k) < nI (nS σ))) := fun q => h8 ((z_b0).mpr q)
    have h8 : 0 ≤ (nI k) ∧ (nI k) < nI (nS σ) := Decidable.of_not_not h8
    refine lv_aload_n hx hb dX4_publish_13 rfl (lv_at hl 0 rfl) ?_
    refine va_get (D := G.1) (ci := 4) (v := .ref (ad 1 0)) (C := RX4) (T := TX4) (N := 4) hx hb hts hinX4 hown hG.1 hP 0 rfl rfl 0 (by decide) hf10 (fun _ h9 => h9) rfl dX4_publish_14 ?_
    refine lv_iload_n hx hb dX4_publish_17 rfl (lv_at hl 1 rfl) ?_
    refine zrdV (As := [.int (nI k)]) ⟨hx, hb, hml, hown, hts⟩ (kX0_agreedEdgesOf l G (ad 1) σ k (hO) (by omega)) (cwV 1 hts gX4_publish_X0_agreedEdgesOf rfl rfl rfl (by decide +kernel) ⟨Nat.le_of_ble_eq_true rfl, Nat.le_of_ble_eq_true rfl⟩) hG (va_recv (q0 := 0) (ci := 0) hG.1 (wX_pA hP) rfl rfl) ((wX_pA hP)) rfl rfl hl.1 dX4_publish_18 (Nat.le_of_ble_eq_true rfl) ⟨Nat.le_of_ble_eq_true rfl, Nat.le_of_ble_eq_true rfl⟩ ?_
    have hf18_0 := nAd_le σ (k)
    refine lv_aload_n hx hb dX4_publish_21 rfl (lv_at hl 0 rfl) ?_
    refine va_get (D := G.1) (ci := 4) (v := .ref (ad 1 0)) (C := RX4) (T := TX4) (N := 4) hx hb hts hinX4 hown hG.1 hP 0 rfl rfl 0 (by decide) hf10 (fun _ h9 => h9) rfl dX4_publish_22 ?_
    refine lv_iload_n hx hb dX4_publish_25 rfl (lv_at hl 1 rfl) ?_
    refine zrdV (As := [.int (nI k)]) ⟨hx, hb, hml, hown, hts⟩ (kX0_edgesOf l G (ad 1) σ k (hO) (by omega)) (cwV 1 hts gX4_publish_X0_edgesOf rfl rfl rfl (by decide +kernel) ⟨Nat.le_of_ble_eq_true rfl, Nat.le_of_ble_eq_true rfl⟩) hG (va_recv (q0 := 0) (ci := 0) hG.1 (wX_pA hP) rfl rfl) ((wX_pA hP)) rfl rfl hl.1 dX4_publish_26 (Nat.le_of_ble_eq_true rfl) ⟨Nat.le_of_ble_eq_true rfl, Nat.le_of_ble_eq_true rfl⟩ ?_
    have hf26_0 := nEd_le σ (k)
    refine lv_icmp_ge (tgt := 35) hx hb dX4_publish_29 (by decide) (fun h29 => ?_) (fun h29 => ?_)
    · skip
      have h29 : (nEd σ k) ≤ (nAd σ k) := (nI_leI (by omega) (by omega)).mp h29
      exfalso; omega
    · skip
      have h29 : ¬ ((nEd σ k) ≤ (nAd σ k)) := fun q => h29 ((nI_leI (by omega) (by omega)).mpr q)
      refine lv_bipush (v := (-2)) hx hb dX4_publish_32 (by decide) ?_
      exact hret _ _ _ _ _ dX4_publish_34 hS (hP) (rfl)
  · skip
    have h8 : ¬ (0 ≤ (nI k) ∧ (nI k) < nI (nS σ)) := (z_b0).mp h8
    exact absurd hvs h8
set_option maxHeartbeats 4000000 in
set_option maxRecDepth 100000 in
theorem kX4_publish_ok (l : Launch) (G : zG) (ad : Nat → Nat → Nat) (σ : Nat → Nat) (T : Nat → Nat → Nat) (o n : Nat) (f : Nat → Int32) (x : Nat → Nat) (len : Nat) {N : Nat} (k : Nat) (hO : Ok N σ) (ho : o < 5) (hn : n ≤ 4) (hk : k < nS σ) (hq : ¬ nAd σ k < nEd σ k) (hd : va_D (fun _ => True) (wX G ad σ T o n f x len)) : Met l yX4_publish wsX4_publish (zRm 4 104) (zPc G [.ref (ad 0 0), .int (nI k)] (va_P G.1 vwCl (wX G ad σ T o n f x len))) (zQ (zA (wX G ad σ T o n f x len)) (some (.int (nI (rvn σ k)))) (va_P G.1 vwCl (wX G ad (su σ (115 + 53 * k) (rvn σ k + 1)) (upT T ((o + n) % 5) σ) (nO o n) (nN n) f x len))) 0 0 (zA (wX G ad σ T o n f x len)) := by
  refine zmkWi (w := (wX G ad σ T o n f x len)) hd (cc := cX4_publish) (maxL := 2) (by decide) rfl (Nat.le_of_ble_eq_true rfl) ?_
  intro pr en st mi ar bl me cd ls Q hx hb hml hown hts hG hP hl hD hS hret
  have hown : st.vm.findClass RX4 = some mi.cls := hown
  have hl : lv_has ls 2 [(0, .ref (ad 0 0)), (1, .int (nI k))] := hl
  have hP : va_P G.1 vwCl (wX G ad σ T o n f x len) st.heap := hP
  have hD : va_D (zA (wX G ad σ T o n f x len)) (wX G ad σ T o n f x len) := hD
  have hinX4 : ∀ w ∈ wsX40, w ∈ wsX4_publish := by decide +kernel
  have hf10 := hts (.fieldLink RX4 10 "MapSheets" "now" "LMapSheets$Atlas;") (by decide +kernel)
  have hf19 := hts (.fieldLink RX4 19 "MapSheets" "history" "LMapSheets$History;") (by decide +kernel)
  have hc := hO.c
  have hs := hO.lS
  have hr := hO.lR
  have hne := hO.lE
  have hvs : 0 ≤ nI k ∧ nI k < nI (nS σ) := z_in hk (by omega)
  have hna := nAd_le σ k
  have hne4 := nEd_le σ k
  refine lv_aload_n hx hb dX4_publish_0 rfl (lv_at hl 0 rfl) ?_
  refine va_get (D := G.1) (ci := 4) (v := .ref (ad 1 0)) (C := RX4) (T := TX4) (N := 4) hx hb hts hinX4 hown hG.1 hP 0 rfl rfl 0 (by decide) hf10 (fun _ h9 => h9) rfl dX4_publish_1 ?_
  refine lv_iload_n hx hb dX4_publish_4 rfl (lv_at hl 1 rfl) ?_
  refine zrdV (As := [.int (nI k)]) ⟨hx, hb, hml, hown, hts⟩ (kX0_hasSheet l G (ad 1) σ (nI k)) (cwV 1 hts gX4_publish_X0_hasSheet rfl rfl rfl (by decide +kernel) ⟨Nat.le_of_ble_eq_true rfl, Nat.le_of_ble_eq_true rfl⟩) hG (va_recv (q0 := 0) (ci := 0) hG.1 (wX_pA hP) rfl rfl) ((wX_pA hP)) rfl rfl hl.1 dX4_publish_5 (Nat.le_of_ble_eq_true rfl) ⟨Nat.le_of_ble_eq_true rfl, Nat.le_of_ble_eq_true rfl⟩ ?_
  refine lv_if_ne (tgt := 13) hx hb dX4_publish_8 (by decide) (fun h8 => ?_) (fun h8 => ?_)
  · skip
    have h8 : ¬ (¬ (0 ≤ (nI k) ∧ (nI k) < nI (nS σ))) := fun q => h8 ((z_b0).mpr q)
    have h8 : 0 ≤ (nI k) ∧ (nI k) < nI (nS σ) := Decidable.of_not_not h8
    refine lv_aload_n hx hb dX4_publish_13 rfl (lv_at hl 0 rfl) ?_
    refine va_get (D := G.1) (ci := 4) (v := .ref (ad 1 0)) (C := RX4) (T := TX4) (N := 4) hx hb hts hinX4 hown hG.1 hP 0 rfl rfl 0 (by decide) hf10 (fun _ h9 => h9) rfl dX4_publish_14 ?_
    refine lv_iload_n hx hb dX4_publish_17 rfl (lv_at hl 1 rfl) ?_
    refine zrdV (As := [.int (nI k)]) ⟨hx, hb, hml, hown, hts⟩ (kX0_agreedEdgesOf l G (ad 1) σ k (hO) (by omega)) (cwV 1 hts gX4_publish_X0_agreedEdgesOf rfl rfl rfl (by decide +kernel) ⟨Nat.le_of_ble_eq_true rfl, Nat.le_of_ble_eq_true rfl⟩) hG (va_recv (q0 := 0) (ci := 0) hG.1 (wX_pA hP) rfl rfl) ((wX_pA hP)) rfl rfl hl.1 dX4_publish_18 (Nat.le_of_ble_eq_true rfl) ⟨Nat.le_of_ble_eq_true rfl, Nat.le_of_ble_eq_true rfl⟩ ?_
    have hf18_0 := nAd_le σ (k)
    refine lv_aload_n hx hb dX4_publish_21 rfl (lv_at hl 0 rfl) ?_
    refine va_get (D := G.1) (ci := 4) (v := .ref (ad 1 0)) (C := RX4) (T := TX4) (N := 4) hx hb hts hinX4 hown hG.1 hP 0 rfl rfl 0 (by decide) hf10 (fun _ h9 => h9) rfl dX4_publish_22 ?_
    refine lv_iload_n hx hb dX4_publish_25 rfl (lv_at hl 1 rfl) ?_
    refine zrdV (As := [.int (nI k)]) ⟨hx, hb, hml, hown, hts⟩ (kX0_edgesOf l G (ad 1) σ k (hO) (by omega)) (cwV 1 hts gX4_publish_X0_edgesOf rfl rfl rfl (by decide +kernel) ⟨Nat.le_of_ble_eq_true rfl, Nat.le_of_ble_eq_true rfl⟩) hG (va_recv (q0 := 0) (ci := 0) hG.1 (wX_pA hP) rfl rfl) ((wX_pA hP)) rfl rfl hl.1 dX4_publish_26 (Nat.le_of_ble_eq_true rfl) ⟨Nat.le_of_ble_eq_true rfl, Nat.le_of_ble_eq_true rfl⟩ ?_
    have hf26_0 := nEd_le σ (k)
    refine lv_icmp_ge (tgt := 35) hx hb dX4_publish_29 (by decide) (fun h29 => ?_) (fun h29 => ?_)
    · skip
      have h29 : (nEd σ k) ≤ (nAd σ k) := (nI_leI (by omega) (by omega)).mp h29
      refine lv_aload_n hx hb dX4_publish_35 rfl (lv_at hl 0 rfl) ?_
      refine va_get (D := G.1) (ci := 4) (v := .ref (ad 2 0)) (C := RX4) (T := TX4) (N := 4) hx hb hts hinX4 hown hG.1 hP 0 rfl rfl 1 (by decide) hf19 (fun _ h9 => h9) rfl dX4_publish_36 ?_
      refine lv_aload_n hx hb dX4_publish_39 rfl (lv_at hl 0 rfl) ?_
      refine va_get (D := G.1) (ci := 4) (v := .ref (ad 1 0)) (C := RX4) (T := TX4) (N := 4) hx hb hts hinX4 hown hG.1 hP 0 rfl rfl 0 (by decide) hf10 (fun _ h9 => h9) rfl dX4_publish_40 ?_
      refine zwrEv (G := G) (wc' := (wHo G (ad 2) (aH ad) o n ++ (wTs G (aH ad) (upT T ((o + n) % 5) σ) 5 ++ wA G (ad 1) σ))) (ws' := (wX G ad σ (upT T ((o + n) % 5) σ) o n f x len)) (va_runV (As := [.ref (ad 1 0)]) (rest := []) ⟨hx, hb, hml, hown, hts⟩ (kX2_recordState l G (ad 2) (aH ad) o n T (ad 1) σ (by omega) (by omega) (zD_any (wX_dHA hD))) (cwV 1 hts gX4_publish_X2_recordState rfl rfl rfl (by decide +kernel) ⟨Nat.le_of_ble_eq_true rfl, Nat.le_of_ble_eq_true rfl⟩) (zPreV hG (va_recv (q0 := 0) (ci := 2) hG.1 (wX_pH hP) rfl rfl) (wX_pHA hP)) rfl rfl hl.1 rfl (lv_room (Nat.le_of_ble_eq_true rfl)) dX4_publish_43 ⟨Nat.le_of_ble_eq_true rfl, Nat.le_of_ble_eq_true rfl⟩) (wX_eHA) (wX_eHA) hP hD hS (wHA_map _ _ _ _ _ _ _ _ _ _ _ _) (fun H locs hP hD hS => ?_)
      have hP : va_P G.1 vwCl (wX G ad σ (upT T ((o + n) % 5) σ) o n f x len) H := hP
      have hD : va_D (zA (wX G ad σ T o n f x len)) (wX G ad σ (upT T ((o + n) % 5) σ) o n f x len) := hD
      refine lv_aload_n hx hb dX4_publish_46 rfl (lv_at hl 0 rfl) ?_
      refine va_get (D := G.1) (ci := 4) (v := .ref (ad 1 0)) (C := RX4) (T := TX4) (N := 4) hx hb hts hinX4 hown hG.1 hP 0 rfl rfl 0 (by decide) hf10 (fun _ h9 => h9) rfl dX4_publish_47 ?_
      refine lv_iload_n hx hb dX4_publish_50 rfl (lv_at hl 1 rfl) ?_
      refine zwrEv (G := G) (wc' := (wA G (ad 1) (su σ (115 + 53 * k) (rvn σ k + 1)))) (ws' := (wX G ad (su σ (115 + 53 * k) (rvn σ k + 1)) (upT T ((o + n) % 5) σ) o n f x len)) (va_runV (As := [.int (nI k)]) (rest := []) ⟨hx, hb, hml, hown, hts⟩ (kX0_publishRevision l G (ad 1) σ k (hO) (by omega) (zD_any (wX_dA hD))) (cwV 1 hts gX4_publish_X0_publishRevision rfl rfl rfl (by decide +kernel) ⟨Nat.le_of_ble_eq_true rfl, Nat.le_of_ble_eq_true rfl⟩) (zPreV hG (va_recv (q0 := 0) (ci := 0) hG.1 (wX_pA hP) rfl rfl) ((wX_pA hP))) rfl rfl hl.1 rfl (lv_room (Nat.le_of_ble_eq_true rfl)) dX4_publish_51 ⟨Nat.le_of_ble_eq_true rfl, Nat.le_of_ble_eq_true rfl⟩) (wX_eA) (wX_eA) hP hD hS rfl (fun H locs hP hD hS => ?_)
      have hP : va_P G.1 vwCl (wX G ad (su σ (115 + 53 * k) (rvn σ k + 1)) (upT T ((o + n) % 5) σ) o n f x len) H := hP
      have hD : va_D (zA (wX G ad σ T o n f x len)) (wX G ad (su σ (115 + 53 * k) (rvn σ k + 1)) (upT T ((o + n) % 5) σ) o n f x len) := hD
      refine lv_aload_n hx hb dX4_publish_54 rfl (lv_at hl 0 rfl) ?_
      refine va_get (D := G.1) (ci := 4) (v := .ref (ad 2 0)) (C := RX4) (T := TX4) (N := 4) hx hb hts hinX4 hown hG.1 hP 0 rfl rfl 1 (by decide) hf19 (fun _ h9 => h9) rfl dX4_publish_55 ?_
      refine zwrEv (G := G) (wc' := (wHo G (ad 2) (aH ad) (nO o n) (nN n))) (ws' := (wX G ad (su σ (115 + 53 * k) (rvn σ k + 1)) (upT T ((o + n) % 5) σ) (nO o n) (nN n) f x len)) (va_runV (As := []) (rest := []) ⟨hx, hb, hml, hown, hts⟩ (kX2_keepRecord l G (ad 2) (aH ad) o n (by omega) (by omega) (zD_any (wX_dH hD))) (cwV 0 hts gX4_publish_X2_keepRecord rfl rfl rfl (by decide +kernel) ⟨Nat.le_of_ble_eq_true rfl, Nat.le_of_ble_eq_true rfl⟩) (zPreV hG (va_recv (q0 := 0) (ci := 2) hG.1 (wX_pH hP) rfl rfl) (wX_pH hP)) rfl rfl hl.1 rfl (lv_room (Nat.le_of_ble_eq_true rfl)) dX4_publish_58 ⟨Nat.le_of_ble_eq_true rfl, Nat.le_of_ble_eq_true rfl⟩) (wX_eH) (wX_eH) hP hD hS rfl (fun H locs hP hD hS => ?_)
      have hP : va_P G.1 vwCl (wX G ad (su σ (115 + 53 * k) (rvn σ k + 1)) (upT T ((o + n) % 5) σ) (nO o n) (nN n) f x len) H := hP
      have hD : va_D (zA (wX G ad σ T o n f x len)) (wX G ad (su σ (115 + 53 * k) (rvn σ k + 1)) (upT T ((o + n) % 5) σ) (nO o n) (nN n) f x len) := hD
      refine lv_aload_n hx hb dX4_publish_61 rfl (lv_at hl 0 rfl) ?_
      refine va_get (D := G.1) (ci := 4) (v := .ref (ad 1 0)) (C := RX4) (T := TX4) (N := 4) hx hb hts hinX4 hown hG.1 hP 0 rfl rfl 0 (by decide) hf10 (fun _ h9 => h9) rfl dX4_publish_62 ?_
      refine lv_iload_n hx hb dX4_publish_65 rfl (lv_at hl 1 rfl) ?_
      refine zrdV (As := [.int (nI k)]) ⟨hx, hb, hml, hown, hts⟩ (kX0_revisionOf l G (ad 1) (su σ (115 + 53 * k) (rvn σ k + 1)) k (hO.su_pb (by have := hO.rv (show k < 36 by omega); omega)) (by omega)) (cwV 1 hts gX4_publish_X0_revisionOf rfl rfl rfl (by decide +kernel) ⟨Nat.le_of_ble_eq_true rfl, Nat.le_of_ble_eq_true rfl⟩) hG (va_recv (q0 := 0) (ci := 0) hG.1 (wX_pA hP) rfl rfl) ((wX_pA hP)) rfl rfl hl.1 dX4_publish_66 (Nat.le_of_ble_eq_true rfl) ⟨Nat.le_of_ble_eq_true rfl, Nat.le_of_ble_eq_true rfl⟩ ?_
      have hf66_0 := hO.rv (show k < 36 by omega)
      have hf66_1 := hO.N
      exact hret _ _ _ _ _ dX4_publish_69 hS (hP) (congrArg nI (by rw [rvn_ne _ (fun q => by omega)]))
    · skip
      have h29 : ¬ ((nEd σ k) ≤ (nAd σ k)) := fun q => h29 ((nI_leI (by omega) (by omega)).mpr q)
      exfalso; omega
  · skip
    have h8 : ¬ (0 ≤ (nI k) ∧ (nI k) < nI (nS σ)) := (z_b0).mp h8
    exact absurd hvs h8
set_option maxHeartbeats 4000000 in
set_option maxRecDepth 100000 in
theorem kX4_scale_inv (l : Launch) (G : zG) (ad : Nat → Nat → Nat) (σ : Nat → Nat) (T : Nat → Nat → Nat) (o n : Nat) (f : Nat → Int32) (x : Nat → Nat) (len : Nat) {N : Nat} (x1 : Int32) (x2 : Int32) (hO : Ok N σ) (ho : o < 5) (hn : n ≤ 4) (hv : ¬ ((0 ≤ x1 ∧ x1 < nI (nS σ)) ∧ (nI 1 ≤ x2 ∧ x2 ≤ nI 1000000))) (hd : va_D (fun _ => True) (wX G ad σ T o n f x len)) : Met l yX4_scale wsX4_scale (zRm 4 104) (zPc G [.ref (ad 0 0), .int x1, .int x2] (va_P G.1 vwCl (wX G ad σ T o n f x len))) (zQ (zA (wX G ad σ T o n f x len)) (some (.int ((-1)))) (va_P G.1 vwCl (wX G ad σ T o n f x len))) 0 0 (zA (wX G ad σ T o n f x len)) := by
  refine zmkWi (w := (wX G ad σ T o n f x len)) hd (cc := cX4_scale) (maxL := 4) (by decide) rfl (Nat.le_of_ble_eq_true rfl) ?_
  intro pr en st mi ar bl me cd ls Q hx hb hml hown hts hG hP hl hD hS hret
  have hown : st.vm.findClass RX4 = some mi.cls := hown
  have hl : lv_has ls 4 [(0, .ref (ad 0 0)), (1, .int x1), (2, .int x2)] := hl
  have hP : va_P G.1 vwCl (wX G ad σ T o n f x len) st.heap := hP
  have hD : va_D (zA (wX G ad σ T o n f x len)) (wX G ad σ T o n f x len) := hD
  have hinX4 : ∀ w ∈ wsX40, w ∈ wsX4_scale := by decide +kernel
  have hf10 := hts (.fieldLink RX4 10 "MapSheets" "now" "LMapSheets$Atlas;") (by decide +kernel)
  have hc230 := hts (.constant RX4 230 (1000000)) (by decide +kernel)
  have hc := hO.c
  have hs := hO.lS
  have hr := hO.lR
  have hne := hO.lE
  refine lv_aload_n hx hb dX4_scale_0 rfl (lv_at hl 0 rfl) ?_
  refine va_get (D := G.1) (ci := 4) (v := .ref (ad 1 0)) (C := RX4) (T := TX4) (N := 4) hx hb hts hinX4 hown hG.1 hP 0 rfl rfl 0 (by decide) hf10 (fun _ h9 => h9) rfl dX4_scale_1 ?_
  refine lv_iload_n hx hb dX4_scale_4 rfl (lv_at hl 1 rfl) ?_
  refine zrdV (As := [.int x1]) ⟨hx, hb, hml, hown, hts⟩ (kX0_hasSheet l G (ad 1) σ x1) (cwV 1 hts gX4_scale_X0_hasSheet rfl rfl rfl (by decide +kernel) ⟨Nat.le_of_ble_eq_true rfl, Nat.le_of_ble_eq_true rfl⟩) hG (va_recv (q0 := 0) (ci := 0) hG.1 (wX_pA hP) rfl rfl) ((wX_pA hP)) rfl rfl hl.1 dX4_scale_5 (Nat.le_of_ble_eq_true rfl) ⟨Nat.le_of_ble_eq_true rfl, Nat.le_of_ble_eq_true rfl⟩ ?_
  refine lv_if_eq (tgt := 21) hx hb dX4_scale_8 (by decide) (fun h8 => ?_) (fun h8 => ?_)
  · skip
    have h8 : ¬ (0 ≤ x1 ∧ x1 < nI (nS σ)) := (z_b0).mp h8
    refine lv_iconst (v := (-1)) hx hb dX4_scale_21 (by decide) ?_
    exact hret _ _ _ _ _ dX4_scale_22 hS (hP) (rfl)
  · skip
    have h8 : ¬ (¬ (0 ≤ x1 ∧ x1 < nI (nS σ))) := fun q => h8 ((z_b0).mpr q)
    have h8 : 0 ≤ x1 ∧ x1 < nI (nS σ) := Decidable.of_not_not h8
    refine lv_iload_n hx hb dX4_scale_11 rfl (lv_at hl 2 rfl) ?_
    refine lv_iconst (v := nI 1) hx hb dX4_scale_12 (by decide) ?_
    refine lv_ldc hx hb hown hc230 dX4_scale_13 ?_
    refine lv_topi (nm_r (e' := nI 1000000) (by decide +kernel) ?_)
    refine zrdS (As := [.int x2, .int (nI 1), .int (nI 1000000)]) ⟨hx, hb, hml, hown, hts⟩ (kX4_isWithin l G  x2 (nI 1) (nI 1000000)) (va_cwS 3 hts gX4_scale_X4_isWithin rfl rfl rfl (by decide +kernel) ⟨Nat.le_of_ble_eq_true rfl, Nat.le_of_ble_eq_true rfl⟩) hG (trivial) rfl rfl hl.1 dX4_scale_15 (Nat.le_of_ble_eq_true rfl) ⟨Nat.le_of_ble_eq_true rfl, Nat.le_of_ble_eq_true rfl⟩ ?_
    refine lv_if_ne (tgt := 23) hx hb dX4_scale_18 (by decide) (fun h18 => ?_) (fun h18 => ?_)
    · skip
      have h18 : ¬ (¬ ((nI 1) ≤ x2 ∧ x2 ≤ (nI 1000000))) := fun q => h18 ((z_b0).mpr q)
      have h18 : (nI 1) ≤ x2 ∧ x2 ≤ (nI 1000000) := Decidable.of_not_not h18
      exact absurd ⟨h8, h18⟩ hv
    · skip
      have h18 : ¬ ((nI 1) ≤ x2 ∧ x2 ≤ (nI 1000000)) := (z_b0).mp h18
      refine lv_iconst (v := (-1)) hx hb dX4_scale_21 (by decide) ?_
      exact hret _ _ _ _ _ dX4_scale_22 hS (hP) (rfl)
set_option maxHeartbeats 4000000 in
set_option maxRecDepth 100000 in
theorem kX4_scale_ok (l : Launch) (G : zG) (ad : Nat → Nat → Nat) (σ : Nat → Nat) (T : Nat → Nat → Nat) (o n : Nat) (f : Nat → Int32) (x : Nat → Nat) (len : Nat) {N : Nat} (k : Nat) (v : Nat) (hO : Ok N σ) (ho : o < 5) (hn : n ≤ 4) (hk : k < nS σ) (hv1 : 1 ≤ v) (hv2 : v ≤ 1000000) (hd : va_D (fun _ => True) (wX G ad σ T o n f x len)) : Met l yX4_scale wsX4_scale (zRm 4 104) (zPc G [.ref (ad 0 0), .int (nI k), .int (nI v)] (va_P G.1 vwCl (wX G ad σ T o n f x len))) (zQ (zA (wX G ad σ T o n f x len)) (some (.int (nI (scn σ k)))) (va_P G.1 vwCl (wX G ad (su σ (116 + 53 * k) v) (upT T ((o + n) % 5) σ) (nO o n) (nN n) f x len))) 0 0 (zA (wX G ad σ T o n f x len)) := by
  refine zmkWi (w := (wX G ad σ T o n f x len)) hd (cc := cX4_scale) (maxL := 4) (by decide) rfl (Nat.le_of_ble_eq_true rfl) ?_
  intro pr en st mi ar bl me cd ls Q hx hb hml hown hts hG hP hl hD hS hret
  have hown : st.vm.findClass RX4 = some mi.cls := hown
  have hl : lv_has ls 4 [(0, .ref (ad 0 0)), (1, .int (nI k)), (2, .int (nI v))] := hl
  have hP : va_P G.1 vwCl (wX G ad σ T o n f x len) st.heap := hP
  have hD : va_D (zA (wX G ad σ T o n f x len)) (wX G ad σ T o n f x len) := hD
  have hinX4 : ∀ w ∈ wsX40, w ∈ wsX4_scale := by decide +kernel
  have hf10 := hts (.fieldLink RX4 10 "MapSheets" "now" "LMapSheets$Atlas;") (by decide +kernel)
  have hc230 := hts (.constant RX4 230 (1000000)) (by decide +kernel)
  have hf19 := hts (.fieldLink RX4 19 "MapSheets" "history" "LMapSheets$History;") (by decide +kernel)
  have hc := hO.c
  have hs := hO.lS
  have hr := hO.lR
  have hne := hO.lE
  have hvs : 0 ≤ nI k ∧ nI k < nI (nS σ) := z_in hk (by omega)
  have hvv : nI 1 ≤ nI v ∧ nI v ≤ nI 1000000 := ⟨nI_le hv1 (by omega), nI_le hv2 (by omega)⟩
  refine lv_aload_n hx hb dX4_scale_0 rfl (lv_at hl 0 rfl) ?_
  refine va_get (D := G.1) (ci := 4) (v := .ref (ad 1 0)) (C := RX4) (T := TX4) (N := 4) hx hb hts hinX4 hown hG.1 hP 0 rfl rfl 0 (by decide) hf10 (fun _ h9 => h9) rfl dX4_scale_1 ?_
  refine lv_iload_n hx hb dX4_scale_4 rfl (lv_at hl 1 rfl) ?_
  refine zrdV (As := [.int (nI k)]) ⟨hx, hb, hml, hown, hts⟩ (kX0_hasSheet l G (ad 1) σ (nI k)) (cwV 1 hts gX4_scale_X0_hasSheet rfl rfl rfl (by decide +kernel) ⟨Nat.le_of_ble_eq_true rfl, Nat.le_of_ble_eq_true rfl⟩) hG (va_recv (q0 := 0) (ci := 0) hG.1 (wX_pA hP) rfl rfl) ((wX_pA hP)) rfl rfl hl.1 dX4_scale_5 (Nat.le_of_ble_eq_true rfl) ⟨Nat.le_of_ble_eq_true rfl, Nat.le_of_ble_eq_true rfl⟩ ?_
  refine lv_if_eq (tgt := 21) hx hb dX4_scale_8 (by decide) (fun h8 => ?_) (fun h8 => ?_)
  · skip
    have h8 : ¬ (0 ≤ (nI k) ∧ (nI k) < nI (nS σ)) := (z_b0).mp h8
    exact absurd hvs h8
  · skip
    have h8 : ¬ (¬ (0 ≤ (nI k) ∧ (nI k) < nI (nS σ))) := fun q => h8 ((z_b0).mpr q)
    have h8 : 0 ≤ (nI k) ∧ (nI k) < nI (nS σ) := Decidable.of_not_not h8
    refine lv_iload_n hx hb dX4_scale_11 rfl (lv_at hl 2 rfl) ?_
    refine lv_iconst (v := nI 1) hx hb dX4_scale_12 (by decide) ?_
    refine lv_ldc hx hb hown hc230 dX4_scale_13 ?_
    refine lv_topi (nm_r (e' := nI 1000000) (by decide +kernel) ?_)
    refine zrdS (As := [.int (nI v), .int (nI 1), .int (nI 1000000)]) ⟨hx, hb, hml, hown, hts⟩ (kX4_isWithin l G  (nI v) (nI 1) (nI 1000000)) (va_cwS 3 hts gX4_scale_X4_isWithin rfl rfl rfl (by decide +kernel) ⟨Nat.le_of_ble_eq_true rfl, Nat.le_of_ble_eq_true rfl⟩) hG (trivial) rfl rfl hl.1 dX4_scale_15 (Nat.le_of_ble_eq_true rfl) ⟨Nat.le_of_ble_eq_true rfl, Nat.le_of_ble_eq_true rfl⟩ ?_
    refine lv_if_ne (tgt := 23) hx hb dX4_scale_18 (by decide) (fun h18 => ?_) (fun h18 => ?_)
    · skip
      have h18 : ¬ (¬ ((nI 1) ≤ (nI v) ∧ (nI v) ≤ (nI 1000000))) := fun q => h18 ((z_b0).mpr q)
      have h18 : (nI 1) ≤ (nI v) ∧ (nI v) ≤ (nI 1000000) := Decidable.of_not_not h18
      refine lv_aload_n hx hb dX4_scale_23 rfl (lv_at hl 0 rfl) ?_
      refine va_get (D := G.1) (ci := 4) (v := .ref (ad 2 0)) (C := RX4) (T := TX4) (N := 4) hx hb hts hinX4 hown hG.1 hP 0 rfl rfl 1 (by decide) hf19 (fun _ h9 => h9) rfl dX4_scale_24 ?_
      refine lv_aload_n hx hb dX4_scale_27 rfl (lv_at hl 0 rfl) ?_
      refine va_get (D := G.1) (ci := 4) (v := .ref (ad 1 0)) (C := RX4) (T := TX4) (N := 4) hx hb hts hinX4 hown hG.1 hP 0 rfl rfl 0 (by decide) hf10 (fun _ h9 => h9) rfl dX4_scale_28 ?_
      refine zwrEv (G := G) (wc' := (wHo G (ad 2) (aH ad) o n ++ (wTs G (aH ad) (upT T ((o + n) % 5) σ) 5 ++ wA G (ad 1) σ))) (ws' := (wX G ad σ (upT T ((o + n) % 5) σ) o n f x len)) (va_runV (As := [.ref (ad 1 0)]) (rest := []) ⟨hx, hb, hml, hown, hts⟩ (kX2_recordState l G (ad 2) (aH ad) o n T (ad 1) σ (by omega) (by omega) (zD_any (wX_dHA hD))) (cwV 1 hts gX4_scale_X2_recordState rfl rfl rfl (by decide +kernel) ⟨Nat.le_of_ble_eq_true rfl, Nat.le_of_ble_eq_true rfl⟩) (zPreV hG (va_recv (q0 := 0) (ci := 2) hG.1 (wX_pH hP) rfl rfl) (wX_pHA hP)) rfl rfl hl.1 rfl (lv_room (Nat.le_of_ble_eq_true rfl)) dX4_scale_31 ⟨Nat.le_of_ble_eq_true rfl, Nat.le_of_ble_eq_true rfl⟩) (wX_eHA) (wX_eHA) hP hD hS (wHA_map _ _ _ _ _ _ _ _ _ _ _ _) (fun H locs hP hD hS => ?_)
      have hP : va_P G.1 vwCl (wX G ad σ (upT T ((o + n) % 5) σ) o n f x len) H := hP
      have hD : va_D (zA (wX G ad σ T o n f x len)) (wX G ad σ (upT T ((o + n) % 5) σ) o n f x len) := hD
      refine lv_aload_n hx hb dX4_scale_34 rfl (lv_at hl 0 rfl) ?_
      refine va_get (D := G.1) (ci := 4) (v := .ref (ad 1 0)) (C := RX4) (T := TX4) (N := 4) hx hb hts hinX4 hown hG.1 hP 0 rfl rfl 0 (by decide) hf10 (fun _ h9 => h9) rfl dX4_scale_35 ?_
      refine lv_iload_n hx hb dX4_scale_38 rfl (lv_at hl 1 rfl) ?_
      refine lv_iload_n hx hb dX4_scale_39 rfl (lv_at hl 2 rfl) ?_
      refine zwrE (G := G) (wc' := (wA G (ad 1) (su σ (116 + 53 * k) v))) (ws' := (wX G ad (su σ (116 + 53 * k) v) (upT T ((o + n) % 5) σ) o n f x len)) (va_runV (As := [.int (nI k), .int (nI v)]) (rest := []) ⟨hx, hb, hml, hown, hts⟩ (kX0_putScale l G (ad 1) σ k v (by omega) (zD_any (wX_dA hD))) (cwV 2 hts gX4_scale_X0_putScale rfl rfl rfl (by decide +kernel) ⟨Nat.le_of_ble_eq_true rfl, Nat.le_of_ble_eq_true rfl⟩) (zPreV hG (va_recv (q0 := 0) (ci := 0) hG.1 (wX_pA hP) rfl rfl) ((wX_pA hP))) rfl rfl hl.1 rfl (lv_room (Nat.le_of_ble_eq_true rfl)) dX4_scale_40 ⟨Nat.le_of_ble_eq_true rfl, Nat.le_of_ble_eq_true rfl⟩) (wX_eA) (wX_eA) hP hD hS rfl (fun H locs hP hD hS => ?_)
      have hP : va_P G.1 vwCl (wX G ad (su σ (116 + 53 * k) v) (upT T ((o + n) % 5) σ) o n f x len) H := hP
      have hD : va_D (zA (wX G ad σ T o n f x len)) (wX G ad (su σ (116 + 53 * k) v) (upT T ((o + n) % 5) σ) o n f x len) := hD
      refine lv_istore_n (lv' := [(3, .int (nI (scn σ k))), (0, .ref (ad 0 0)), (1, .int (nI k)), (2, .int (nI v))]) hx hb dX4_scale_43 rfl hl (by decide) rfl (fun ls hl => ?_)
      refine lv_aload_n hx hb dX4_scale_44 rfl (lv_at hl 1 rfl) ?_
      refine va_get (D := G.1) (ci := 4) (v := .ref (ad 2 0)) (C := RX4) (T := TX4) (N := 4) hx hb hts hinX4 hown hG.1 hP 0 rfl rfl 1 (by decide) hf19 (fun _ h9 => h9) rfl dX4_scale_45 ?_
      refine zwrEv (G := G) (wc' := (wHo G (ad 2) (aH ad) (nO o n) (nN n))) (ws' := (wX G ad (su σ (116 + 53 * k) v) (upT T ((o + n) % 5) σ) (nO o n) (nN n) f x len)) (va_runV (As := []) (rest := []) ⟨hx, hb, hml, hown, hts⟩ (kX2_keepRecord l G (ad 2) (aH ad) o n (by omega) (by omega) (zD_any (wX_dH hD))) (cwV 0 hts gX4_scale_X2_keepRecord rfl rfl rfl (by decide +kernel) ⟨Nat.le_of_ble_eq_true rfl, Nat.le_of_ble_eq_true rfl⟩) (zPreV hG (va_recv (q0 := 0) (ci := 2) hG.1 (wX_pH hP) rfl rfl) (wX_pH hP)) rfl rfl hl.1 rfl (lv_room (Nat.le_of_ble_eq_true rfl)) dX4_scale_48 ⟨Nat.le_of_ble_eq_true rfl, Nat.le_of_ble_eq_true rfl⟩) (wX_eH) (wX_eH) hP hD hS rfl (fun H locs hP hD hS => ?_)
      have hP : va_P G.1 vwCl (wX G ad (su σ (116 + 53 * k) v) (upT T ((o + n) % 5) σ) (nO o n) (nN n) f x len) H := hP
      have hD : va_D (zA (wX G ad σ T o n f x len)) (wX G ad (su σ (116 + 53 * k) v) (upT T ((o + n) % 5) σ) (nO o n) (nN n) f x len) := hD
      refine lv_iload_n hx hb dX4_scale_51 rfl (lv_at hl 0 rfl) ?_
      exact hret _ _ _ _ _ dX4_scale_52 hS (hP) (congrArg nI (rfl))
    · skip
      have h18 : ¬ ((nI 1) ≤ (nI v) ∧ (nI v) ≤ (nI 1000000)) := (z_b0).mp h18
      exact absurd hvv h18