/-- what stands all the way through a turn; how a turn ends -/
def AC (pr : Program) (st : State) (mi : MethodId) (ar : Array Value) (cd : Code) (G : zG) : Prop := pr.tables.exec = Jvm.exec ∧ cd.code = cL_acts ∧ cd.maxLocals = 43 ∧ st.vm.findClass RL = some mi.cls ∧ (∀ w ∈ wsL_acts, w.before ar st = true) ∧ zK G st
def AR (pr : Program) (l : Launch) (en : Env) (st : State) (mi : MethodId) (ar : Array Value) (bl : List Frame) (me : Method) (cd : Code) (Q : State → Prop) (G : zG) (q : Nat → Nat) (ad : Nat → Nat → Nat) (x : Nat → Nat) (len : Nat) (A0 : Nat → Prop) (N : Nat) : Prop :=
  ∀ (pc : Nat) (ls : Array Slot) (H : Heap) (locs : List Loc) (σ' : Nat → Nat) (T' : Nat → Nat → Nat) (o' n' : Nat) (f' : Nat → Int32), decode cL_acts pc = .ok (.ireturn, 1) → va_S A0 st.heap H locs → Jv N σ' o' n' → va_P G.1 vwCl (wL G q σ' ++ wX G ad σ' T' o' n' f' x len) H → W pr l en (zRm 7 176) st mi ar bl me cd H locs 0 0 Q (F0 mi pc ls [.int (nI 1)])
set_option maxHeartbeats 8000000 in
set_option maxRecDepth 100000 in
theorem ac_grid {pr : Program} {l : Launch} {en : Env} {st : State} {mi : MethodId} {ar : Array Value} {bl : List Frame} {me : Method} {cd : Code} {Q : State → Prop} {G : zG} {q : Nat → Nat} {ad : Nat → Nat → Nat} {σ : Nat → Nat} {T : Nat → Nat → Nat} {o n : Nat} {f : Nat → Int32} {x : Nat → Nat} {len : Nat} {N : Nat} {A0 : Nat → Prop} {H : Heap} {locs : List Loc} {ls : Array Slot} {v : Nat} (C0 : AC pr st mi ar cd G) (hJ : Jv N σ o n) (hN : N + 1 < 100000) (hv : v < 10000000) (hP : va_P G.1 vwCl ((wL G q σ) ++ wX G ad σ T o n f x len) H) (hD : va_D A0 ((wL G q σ) ++ wX G ad σ T o n f x len)) (hS : va_S A0 st.heap H locs) (hl : lv_has ls 43 [(0, .ref (ad 0 0)), (1, .ref (q 0)), (2, .ref (q 1)), (3, .ref (q 2)), (4, .ref (q 3)), (6, .int (nI v))]) (hret : AR pr l en st mi ar bl me cd Q G q ad x len A0 (N + 1)) : W pr l en (zRm 7 176) st mi ar bl me cd H locs 0 0 Q (F0 mi 204 ls []) := by
  obtain ⟨hx, hb, hml, hown, hts, hG⟩ := id C0
  obtain ⟨hO, hC, ho, hn, hM⟩ := id hJ
  have hc := hO.c
  have hs := hO.lS
  have hne := hO.lE
  have hM6 := hM.s
  have hM7 := hM.e
  have hM4 := hM.r
  have hM1 := hM.1
  have hM2 := hM.2
  have hNN := hO.N
  have hg2 := hO.2.2.1
  have hg3 := hO.2.2.2.1
  refine lv_iload hx hb dL_acts_204 (lv_at hl 5 rfl) ?_
  refine lv_bipush (v := nI 8) hx hb dL_acts_206 (by decide) ?_
  refine lv_irem hx hb dL_acts_208 (nI_ne0 (by omega) (by omega)) ?_
  refine lv_topi (nm_r (e' := nI (v % 8)) (pk_rem (by omega) (by omega) (by omega)) ?_)
  refine lv_if_le (tgt := 229) hx hb dL_acts_209 (by decide) (fun h209 => ?_) (fun h209 => ?_)
  · skip
    have h209 : (v % 8) = 0 := (z_le0 (by omega)).mp h209
    obtain ⟨c, hcv⟩ : ∃ c, c = 1 + v / 8 % 3 := ⟨_, rfl⟩
    obtain ⟨r, hrv⟩ : ∃ r, r = 1 + v / 24 % 2 := ⟨_, rfl⟩
    have hb1 : (c - 1) * r ≤ 2 * 2 := Nat.mul_le_mul (by omega) (by omega)
    have hb2 : c * (r - 1) ≤ 3 * 1 := Nat.mul_le_mul (by omega) (by omega)
    have hnb : nE (bgn c r (σ 2) (σ 3)) = (c - 1) * r + c * (r - 1) := rfl
    refine lv_aload_n hx hb dL_acts_229 rfl (lv_at hl 1 rfl) ?_
    refine lv_aload_n hx hb dL_acts_230 rfl (lv_at hl 2 rfl) ?_
    refine lv_aload_n hx hb dL_acts_231 rfl (lv_at hl 3 rfl) ?_
    refine lv_aload hx hb dL_acts_232 (lv_at hl 4 rfl) ?_
    refine lv_iconst (v := nI 1) hx hb dL_acts_234 (by decide) ?_
    refine lv_iload hx hb dL_acts_235 (lv_at hl 5 rfl) ?_
    refine lv_bipush (v := nI 8) hx hb dL_acts_237 (by decide) ?_
    refine lv_idiv hx hb dL_acts_239 (nI_ne0 (by omega) (by omega)) ?_
    refine lv_topi (nm_r (e' := nI (v / 8)) (pk_div (by omega) (by omega) (by omega)) ?_)
    refine lv_iconst (v := nI 3) hx hb dL_acts_240 (by decide) ?_
    refine lv_irem hx hb dL_acts_241 (nI_ne0 (by omega) (by omega)) ?_
    refine lv_topi (nm_r (e' := nI ((v / 8) % 3)) (pk_rem (by omega) (by omega) (by omega)) ?_)
    refine lv_iadd hx hb dL_acts_242 ?_
    refine lv_topi (nm_r (e' := nI (1 + ((v / 8) % 3))) (nI_add _ _) ?_)
    refine lv_topi (nm_r (e' := (nI c)) (by rw [hcv]) ?_)
    refine lv_iconst (v := nI 1) hx hb dL_acts_243 (by decide) ?_
    refine lv_iload hx hb dL_acts_244 (lv_at hl 5 rfl) ?_
    refine lv_bipush (v := nI 24) hx hb dL_acts_246 (by decide) ?_
    refine lv_idiv hx hb dL_acts_248 (nI_ne0 (by omega) (by omega)) ?_
    refine lv_topi (nm_r (e' := nI (v / 24)) (pk_div (by omega) (by omega) (by omega)) ?_)
    refine lv_iconst (v := nI 2) hx hb dL_acts_249 (by decide) ?_
    refine lv_irem hx hb dL_acts_250 (nI_ne0 (by omega) (by omega)) ?_
    refine lv_topi (nm_r (e' := nI ((v / 24) % 2)) (pk_rem (by omega) (by omega) (by omega)) ?_)
    refine lv_iadd hx hb dL_acts_251 ?_
    refine lv_topi (nm_r (e' := nI (1 + ((v / 24) % 2))) (nI_add _ _) ?_)
    refine lv_topi (nm_r (e' := (nI r)) (by rw [hrv]) ?_)
    refine zwrLv (G := G) (wc := (wL0 G q (gF σ) (rF σ) (aF σ) (bF σ))) (wc' := (wL G q (bgn c r (σ 2) (σ 3)))) (w2 := wX G ad σ T o n f x len) (va_runS (As := [.ref (q 0), .ref (q 1), .ref (q 2), .ref (q 3), .int (nI c), .int (nI r)]) (rest := []) ⟨hx, hb, hml, hown, hts⟩ (kL_begins l G q (gF σ) (rF σ) (aF σ) (bF σ) (σ 2) (σ 3) c r (if_neg (by omega)) (if_neg (by omega)) (zD_any (zD_l hD)) ) (va_cwS 6 hts gL_acts_L_begins rfl rfl rfl (by decide +kernel) ⟨Nat.le_of_ble_eq_true rfl, Nat.le_of_ble_eq_true rfl⟩) (zPre hG (zP_l hP)) rfl rfl hl.1 rfl (lv_room (Nat.le_of_ble_eq_true rfl)) dL_acts_252 ⟨Nat.le_of_ble_eq_true rfl, Nat.le_of_ble_eq_true rfl⟩) hP hD hS rfl (fun H locs hP hD hS => ?_)
    refine lv_aload_n hx hb dL_acts_255 rfl (lv_at hl 0 rfl) ?_
    refine lv_aload_n hx hb dL_acts_256 rfl (lv_at hl 1 rfl) ?_
    refine lv_iconst (v := nI 0) hx hb dL_acts_257 (by decide) ?_
    refine va_iald hx hb hG.1 hP 0 0 rfl rfl (vp_in_nI (n := 0) (N := 5) (by omega) (by omega)) dL_acts_258 ?_
    refine lv_topi (nm_r (e' := nI ((bgn c r (σ 2) (σ 3)) 0)) (by rw [nI_clamp (by omega)]; exact if_neg (by omega)) ?_)
    refine lv_topi (nm_r (e' := (nI c)) (rfl) ?_)
    refine lv_aload_n hx hb dL_acts_259 rfl (lv_at hl 1 rfl) ?_
    refine lv_iconst (v := nI 1) hx hb dL_acts_260 (by decide) ?_
    refine va_iald hx hb hG.1 hP 0 0 rfl rfl (vp_in_nI (n := 1) (N := 5) (by omega) (by omega)) dL_acts_261 ?_
    refine lv_topi (nm_r (e' := nI ((bgn c r (σ 2) (σ 3)) 1)) (by rw [nI_clamp (by omega)]; exact if_neg (by omega)) ?_)
    refine lv_topi (nm_r (e' := (nI r)) (rfl) ?_)
    refine zwrR (G := G) (w1 := (wL G q (bgn c r (σ 2) (σ 3)))) (wc := wX G ad σ T o n f x len) (wc' := wX G ad (bgn c r (σ 2) (σ 3)) (upT T ((o + n) % 5) σ) (nO o n) (nN n) f x len) (va_runV (As := [.int (nI c), .int (nI r)]) (rest := []) ⟨hx, hb, hml, hown, hts⟩ (kX4_grid_ok l G ad σ T o n f x len c r (hO) (by omega) (by omega) (by omega) (by omega) (by omega) (by omega) (zD_any (zD_r hD))) (cwV 2 hts gL_acts_X4_grid rfl rfl rfl (by decide +kernel) ⟨Nat.le_of_ble_eq_true rfl, Nat.le_of_ble_eq_true rfl⟩) (zPreV hG (va_recv (q0 := 0) (ci := 4) hG.1 (zP_r hP) rfl rfl) (zP_r hP)) rfl rfl hl.1 rfl (lv_room (Nat.le_of_ble_eq_true rfl)) dL_acts_262 ⟨Nat.le_of_ble_eq_true rfl, Nat.le_of_ble_eq_true rfl⟩) hP hD hS (wX_map ..) (fun H locs hP hD hS => ?_)
    refine lv_aload_n hx hb dL_acts_265 rfl (lv_at hl 1 rfl) ?_
    refine lv_iconst (v := nI 0) hx hb dL_acts_266 (by decide) ?_
    refine va_iald hx hb hG.1 hP 0 0 rfl rfl (vp_in_nI (n := 0) (N := 5) (by omega) (by omega)) dL_acts_267 ?_
    refine lv_topi (nm_r (e' := nI ((bgn c r (σ 2) (σ 3)) 0)) (by rw [nI_clamp (by omega)]; exact if_neg (by omega)) ?_)
    refine lv_topi (nm_r (e' := (nI c)) (rfl) ?_)
    refine lv_iconst (v := nI 1) hx hb dL_acts_268 (by decide) ?_
    refine lv_isub hx hb dL_acts_269 ?_
    refine lv_topi (nm_r (e' := nI (c - 1)) (pk_sub (by omega)) ?_)
    refine lv_aload_n hx hb dL_acts_270 rfl (lv_at hl 1 rfl) ?_
    refine lv_iconst (v := nI 1) hx hb dL_acts_271 (by decide) ?_
    refine va_iald hx hb hG.1 hP 0 0 rfl rfl (vp_in_nI (n := 1) (N := 5) (by omega) (by omega)) dL_acts_272 ?_
    refine lv_topi (nm_r (e' := nI ((bgn c r (σ 2) (σ 3)) 1)) (by rw [nI_clamp (by omega)]; exact if_neg (by omega)) ?_)
    refine lv_topi (nm_r (e' := (nI r)) (rfl) ?_)
    refine lv_imul hx hb dL_acts_273 ?_
    refine lv_topi (nm_r (e' := nI ((c - 1) * r)) (pk_mul _ _) ?_)
    refine lv_aload_n hx hb dL_acts_274 rfl (lv_at hl 1 rfl) ?_
    refine lv_iconst (v := nI 0) hx hb dL_acts_275 (by decide) ?_
    refine va_iald hx hb hG.1 hP 0 0 rfl rfl (vp_in_nI (n := 0) (N := 5) (by omega) (by omega)) dL_acts_276 ?_
    refine lv_topi (nm_r (e' := nI ((bgn c r (σ 2) (σ 3)) 0)) (by rw [nI_clamp (by omega)]; exact if_neg (by omega)) ?_)
    refine lv_topi (nm_r (e' := (nI c)) (rfl) ?_)
    refine lv_aload_n hx hb dL_acts_277 rfl (lv_at hl 1 rfl) ?_
    refine lv_iconst (v := nI 1) hx hb dL_acts_278 (by decide) ?_
    refine va_iald hx hb hG.1 hP 0 0 rfl rfl (vp_in_nI (n := 1) (N := 5) (by omega) (by omega)) dL_acts_279 ?_
    refine lv_topi (nm_r (e' := nI ((bgn c r (σ 2) (σ 3)) 1)) (by rw [nI_clamp (by omega)]; exact if_neg (by omega)) ?_)
    refine lv_topi (nm_r (e' := (nI r)) (rfl) ?_)
    refine lv_iconst (v := nI 1) hx hb dL_acts_280 (by decide) ?_
    refine lv_isub hx hb dL_acts_281 ?_
    refine lv_topi (nm_r (e' := nI (r - 1)) (pk_sub (by omega)) ?_)
    refine lv_imul hx hb dL_acts_282 ?_
    refine lv_topi (nm_r (e' := nI (c * (r - 1))) (pk_mul _ _) ?_)
    refine lv_iadd hx hb dL_acts_283 ?_
    refine lv_topi (nm_r (e' := nI (((c - 1) * r) + (c * (r - 1)))) (nI_add _ _) ?_)
    refine lv_icmp_ne (tgt := 291) hx hb dL_acts_284 (by decide) (fun h284 => ?_) (fun h284 => ?_)
    · skip
      exact absurd (congrArg nI (hnb)) h284
    · skip
      refine lv_iconst (v := nI 1) hx hb dL_acts_287 (by decide) ?_
      refine lv_goto (tgt := 292) hx hb dL_acts_288 (by decide) ?_
      exact hret _ _ _ _ _ _ _ _ _ dL_acts_292 hS (⟨(hO.bg ⟨by omega, by omega⟩ ⟨by omega, by omega⟩).up hN, cln_bgn (hO.bg ⟨by omega, by omega⟩ ⟨by omega, by omega⟩), jO ho, jN hn, ⟨(show c ≤ 3 by omega), (show r ≤ 2 by omega)⟩⟩) hP
  · skip
    have h209 : ¬ ((v % 8) = 0) := fun q => h209 ((z_le0 (by omega)).mpr q)
    have h209 : 0 < (v % 8) := Nat.pos_of_ne_zero h209
    refine lv_aload_n hx hb dL_acts_212 rfl (lv_at hl 0 rfl) ?_
    refine lv_iconst (v := nI 3) hx hb dL_acts_213 (by decide) ?_
    refine lv_bipush (v := nI 7) hx hb dL_acts_214 (by decide) ?_
    refine zwrR (G := G) (w1 := (wL G q σ)) (wc := wX G ad σ T o n f x len) (wc' := wX G ad σ T o n f x len) (va_runV (As := [.int (nI 3), .int (nI 7)]) (rest := []) ⟨hx, hb, hml, hown, hts⟩ (kX4_grid_inv l G ad σ T o n f x len (nI 3) (nI 7) (hO) (by omega) (by omega) (fun z => absurd z.2.2 (by decide +kernel)) (zD_any (zD_r hD))) (cwV 2 hts gL_acts_X4_grid rfl rfl rfl (by decide +kernel) ⟨Nat.le_of_ble_eq_true rfl, Nat.le_of_ble_eq_true rfl⟩) (zPreV hG (va_recv (q0 := 0) (ci := 4) hG.1 (zP_r hP) rfl rfl) (zP_r hP)) rfl rfl hl.1 rfl (lv_room (Nat.le_of_ble_eq_true rfl)) dL_acts_216 ⟨Nat.le_of_ble_eq_true rfl, Nat.le_of_ble_eq_true rfl⟩) hP hD hS (wX_map ..) (fun H locs hP hD hS => ?_)
    refine lv_iconst (v := (-1)) hx hb dL_acts_219 (by decide) ?_
    refine lv_icmp_ne (tgt := 227) hx hb dL_acts_220 (by decide) (fun h220 => ?_) (fun h220 => ?_)
    · skip
      exact absurd rfl h220
    · skip
      refine lv_iconst (v := nI 1) hx hb dL_acts_223 (by decide) ?_
      refine lv_goto (tgt := 228) hx hb dL_acts_224 (by decide) ?_
      exact hret _ _ _ _ _ _ _ _ _ dL_acts_228 hS (⟨hO.up hN, hC, ho, hn, hM⟩) hP
set_option maxHeartbeats 8000000 in
set_option maxRecDepth 100000 in
theorem ac_set {pr : Program} {l : Launch} {en : Env} {st : State} {mi : MethodId} {ar : Array Value} {bl : List Frame} {me : Method} {cd : Code} {Q : State → Prop} {G : zG} {q : Nat → Nat} {ad : Nat → Nat → Nat} {σ : Nat → Nat} {T : Nat → Nat → Nat} {o n : Nat} {f : Nat → Int32} {x : Nat → Nat} {len : Nat} {N : Nat} {A0 : Nat → Prop} {H : Heap} {locs : List Loc} {ls : Array Slot} {v : Nat} (C0 : AC pr st mi ar cd G) (hJ : Jv N σ o n) (hN : N + 1 < 100000) (hv : v < 10000000) (hP : va_P G.1 vwCl ((wL G q σ) ++ wX G ad σ T o n f x len) H) (hD : va_D A0 ((wL G q σ) ++ wX G ad σ T o n f x len)) (hS : va_S A0 st.heap H locs) (hl : lv_has ls 43 [(0, .ref (ad 0 0)), (1, .ref (q 0)), (2, .ref (q 1)), (3, .ref (q 2)), (4, .ref (q 3)), (6, .int (nI v))]) (hret : AR pr l en st mi ar bl me cd Q G q ad x len A0 (N + 1)) : W pr l en (zRm 7 176) st mi ar bl me cd H locs 0 0 Q (F0 mi 293 ls []) := by
  obtain ⟨hx, hb, hml, hown, hts, hG⟩ := id C0
  obtain ⟨hO, hC, ho, hn, hM⟩ := id hJ
  have hc := hO.c
  have hs := hO.lS
  have hne := hO.lE
  have hM6 := hM.s
  have hM7 := hM.e
  have hM4 := hM.r
  have hM1 := hM.1
  have hM2 := hM.2
  have hNN := hO.N
  have hg2 := hO.2.2.1
  have hg3 := hO.2.2.2.1
  refine lv_iload hx hb dL_acts_293 (lv_at hl 5 rfl) ?_
  refine lv_iconst (v := nI 2) hx hb dL_acts_295 (by decide) ?_
  refine lv_irem hx hb dL_acts_296 (nI_ne0 (by omega) (by omega)) ?_
  refine lv_topi (nm_r (e' := nI (v % 2)) (pk_rem (by omega) (by omega) (by omega)) ?_)
  rcases (show v % 2 = 0 ∨ v % 2 = 1 by omega) with hw | hw
  · refine lv_topi (nm_r (e' := nI 0) (by rw [hw]) ?_)
    refine lv_istore (lv' := [(15, .int (nI 0)), (0, .ref (ad 0 0)), (1, .ref (q 0)), (2, .ref (q 1)), (3, .ref (q 2)), (4, .ref (q 3)), (6, .int (nI v))]) hx hb dL_acts_297 hl (by decide) rfl (fun ls hl => ?_)
    refine lv_aload_n hx hb dL_acts_299 rfl (lv_at hl 2 rfl) ?_
    refine lv_iconst (v := nI 2) hx hb dL_acts_300 (by decide) ?_
    refine lv_iload hx hb dL_acts_301 (lv_at hl 0 rfl) ?_
    refine lv_iadd hx hb dL_acts_303 ?_
    refine lv_topi (nm_r (e' := nI (2 + 0)) (nI_add _ _) ?_)
    refine va_iald hx hb hG.1 hP 0 0 rfl rfl (vp_in_nI (n := 2 + 0) (N := 5) (by omega) (by omega)) dL_acts_304 ?_
    refine lv_topi (nm_r (e' := nI (σ 2)) (by rw [nI_clamp (by omega)]; exact if_neg (by omega)) ?_)
    refine lv_istore (lv' := [(16, .int (nI (σ 2))), (15, .int (nI 0)), (0, .ref (ad 0 0)), (1, .ref (q 0)), (2, .ref (q 1)), (3, .ref (q 2)), (4, .ref (q 3)), (6, .int (nI v))]) hx hb dL_acts_305 hl (by decide) rfl (fun ls hl => ?_)
    refine lv_aload_n hx hb dL_acts_307 rfl (lv_at hl 3 rfl) ?_
    refine lv_iconst (v := nI 2) hx hb dL_acts_308 (by decide) ?_
    refine lv_iload hx hb dL_acts_309 (lv_at hl 1 rfl) ?_
    refine lv_iadd hx hb dL_acts_311 ?_
    refine lv_topi (nm_r (e' := nI (2 + 0)) (nI_add _ _) ?_)
    refine lv_iload hx hb dL_acts_312 (lv_at hl 1 rfl) ?_
    refine lv_if_ne (tgt := 326) hx hb dL_acts_314 (by decide) (fun h314 => ?_) (fun h314 => ?_)
    · skip
      have h314 : ¬ (0 = 0) := fun q => h314 ((z_eq0 (by omega)).mpr q)
      have h314 : 0 < 0 := Nat.pos_of_ne_zero h314
      exfalso; omega
    · skip
      have h314 : 0 = 0 := (z_eq0 (by omega)).mp h314
      refine lv_iload hx hb dL_acts_317 (lv_at hl 7 rfl) ?_
      refine lv_iconst (v := nI 2) hx hb dL_acts_319 (by decide) ?_
      refine lv_idiv hx hb dL_acts_320 (nI_ne0 (by omega) (by omega)) ?_
      refine lv_topi (nm_r (e' := nI (v / 2)) (pk_div (by omega) (by omega) (by omega)) ?_)
      refine lv_iconst (v := nI 2) hx hb dL_acts_321 (by decide) ?_
      refine lv_irem hx hb dL_acts_322 (nI_ne0 (by omega) (by omega)) ?_
      refine lv_topi (nm_r (e' := nI ((v / 2) % 2)) (pk_rem (by omega) (by omega) (by omega)) ?_)
      refine lv_goto (tgt := 334) hx hb dL_acts_323 (by decide) ?_
      refine va_iast hx hb hG.1 hP hD hS 0 0 rfl rfl (vp_in_nI (n := 2 + 0) (N := 5) (by omega) (by omega)) dL_acts_334 (fun H locs hP hD hS => ?_)
      rw [nI_clamp (show 2 + 0 < 2 ^ 31 by omega)] at hP hD
      have hP : va_P G.1 vwCl ((wL0 G q (upd (gF σ) (2 + 0) (nI ((v / 2) % 2))) (rF σ) (aF σ) (bF σ)) ++ wX G ad σ T o n f x len) H := hP
      have hD : va_D A0 ((wL0 G q (upd (gF σ) (2 + 0) (nI ((v / 2) % 2))) (rF σ) (aF σ) (bF σ)) ++ wX G ad σ T o n f x len) := hD
      have hP : va_P G.1 vwCl ((wL G q (su σ 2 (v / 2 % 2))) ++ wX G ad σ T o n f x len) H := wL_x (gF_23 σ (Or.inl rfl) _) (lo_r σ (by omega) _) (lo_a σ (by omega) _) (lo_b σ (by omega) _) hP
      have hD : va_D A0 ((wL G q (su σ 2 (v / 2 % 2))) ++ wX G ad σ T o n f x len) := wL_d hD
      refine lv_aload_n hx hb dL_acts_335 rfl (lv_at hl 2 rfl) ?_
      refine lv_iload hx hb dL_acts_336 (lv_at hl 1 rfl) ?_
      refine lv_aload_n hx hb dL_acts_338 rfl (lv_at hl 3 rfl) ?_
      refine lv_iconst (v := nI 2) hx hb dL_acts_339 (by decide) ?_
      refine lv_iload hx hb dL_acts_340 (lv_at hl 1 rfl) ?_
      refine lv_iadd hx hb dL_acts_342 ?_
      refine lv_topi (nm_r (e' := nI (2 + 0)) (nI_add _ _) ?_)
      refine va_iald hx hb hG.1 hP 0 0 rfl rfl (vp_in_nI (n := 2 + 0) (N := 5) (by omega) (by omega)) dL_acts_343 ?_
      refine lv_topi (nm_r (e' := nI ((su σ 2 (v / 2 % 2)) 2)) (by rw [nI_clamp (by omega)]; exact if_neg (by omega)) ?_)
      refine lv_topi (nm_r (e' := (nI (v / 2 % 2))) (congrArg nI (su_at _ _ _)) ?_)
      refine zwrR (G := G) (w1 := (wL G q (su σ 2 (v / 2 % 2)))) (wc := wX G ad σ T o n f x len) (wc' := wX G ad (su σ 2 (v / 2 % 2)) (upT T ((o + n) % 5) σ) (nO o n) (nN n) f x len) (va_runV (As := [.int (nI 0), .int (nI (v / 2 % 2))]) (rest := []) ⟨hx, hb, hml, hown, hts⟩ (kX4_set_guard l G ad σ T o n f x len (v / 2 % 2) (hO) (by omega) (by omega) (by omega) (zD_any (zD_r hD))) (cwV 2 hts gL_acts_X4_set rfl rfl rfl (by decide +kernel) ⟨Nat.le_of_ble_eq_true rfl, Nat.le_of_ble_eq_true rfl⟩) (zPreV hG (va_recv (q0 := 0) (ci := 4) hG.1 (zP_r hP) rfl rfl) (zP_r hP)) rfl rfl hl.1 rfl (lv_room (Nat.le_of_ble_eq_true rfl)) dL_acts_344 ⟨Nat.le_of_ble_eq_true rfl, Nat.le_of_ble_eq_true rfl⟩) hP hD hS (wX_map ..) (fun H locs hP hD hS => ?_)
      refine lv_iload hx hb dL_acts_347 (lv_at hl 0 rfl) ?_
      refine lv_icmp_ne (tgt := 356) hx hb dL_acts_349 (by decide) (fun h349 => ?_) (fun h349 => ?_)
      · skip
        exact absurd rfl h349
      · skip
        refine lv_iconst (v := nI 1) hx hb dL_acts_352 (by decide) ?_
        refine lv_goto (tgt := 357) hx hb dL_acts_353 (by decide) ?_
        exact hret _ _ _ _ _ _ _ _ _ dL_acts_357 hS (⟨(hO.su_gd (by omega)).up hN, cln_su hO hC (by omega) (fun k y hy => by omega) (fun e he => by omega), jO ho, jN hn, hM.su (by omega)⟩) hP
  · refine lv_topi (nm_r (e' := nI 1) (by rw [hw]) ?_)
    refine lv_istore (lv' := [(15, .int (nI 1)), (0, .ref (ad 0 0)), (1, .ref (q 0)), (2, .ref (q 1)), (3, .ref (q 2)), (4, .ref (q 3)), (6, .int (nI v))]) hx hb dL_acts_297 hl (by decide) rfl (fun ls hl => ?_)
    refine lv_aload_n hx hb dL_acts_299 rfl (lv_at hl 2 rfl) ?_
    refine lv_iconst (v := nI 2) hx hb dL_acts_300 (by decide) ?_
    refine lv_iload hx hb dL_acts_301 (lv_at hl 0 rfl) ?_
    refine lv_iadd hx hb dL_acts_303 ?_
    refine lv_topi (nm_r (e' := nI (2 + 1)) (nI_add _ _) ?_)
    refine va_iald hx hb hG.1 hP 0 0 rfl rfl (vp_in_nI (n := 2 + 1) (N := 5) (by omega) (by omega)) dL_acts_304 ?_
    refine lv_topi (nm_r (e' := nI (σ 3)) (by rw [nI_clamp (by omega)]; exact if_neg (by omega)) ?_)
    refine lv_istore (lv' := [(16, .int (nI (σ 3))), (15, .int (nI 1)), (0, .ref (ad 0 0)), (1, .ref (q 0)), (2, .ref (q 1)), (3, .ref (q 2)), (4, .ref (q 3)), (6, .int (nI v))]) hx hb dL_acts_305 hl (by decide) rfl (fun ls hl => ?_)
    refine lv_aload_n hx hb dL_acts_307 rfl (lv_at hl 3 rfl) ?_
    refine lv_iconst (v := nI 2) hx hb dL_acts_308 (by decide) ?_
    refine lv_iload hx hb dL_acts_309 (lv_at hl 1 rfl) ?_
    refine lv_iadd hx hb dL_acts_311 ?_
    refine lv_topi (nm_r (e' := nI (2 + 1)) (nI_add _ _) ?_)
    refine lv_iload hx hb dL_acts_312 (lv_at hl 1 rfl) ?_
    refine lv_if_ne (tgt := 326) hx hb dL_acts_314 (by decide) (fun h314 => ?_) (fun h314 => ?_)
    · skip
      have h314 : ¬ (1 = 0) := fun q => h314 ((z_eq0 (by omega)).mpr q)
      have h314 : 0 < 1 := Nat.pos_of_ne_zero h314
      refine lv_iload hx hb dL_acts_326 (lv_at hl 7 rfl) ?_
      refine lv_iconst (v := nI 2) hx hb dL_acts_328 (by decide) ?_
      refine lv_idiv hx hb dL_acts_329 (nI_ne0 (by omega) (by omega)) ?_
      refine lv_topi (nm_r (e' := nI (v / 2)) (pk_div (by omega) (by omega) (by omega)) ?_)
      refine lv_sipush (v := nI 1001) hx hb dL_acts_330 (by decide) ?_
      refine lv_irem hx hb dL_acts_333 (nI_ne0 (by omega) (by omega)) ?_
      refine lv_topi (nm_r (e' := nI ((v / 2) % 1001)) (pk_rem (by omega) (by omega) (by omega)) ?_)
      refine va_iast hx hb hG.1 hP hD hS 0 0 rfl rfl (vp_in_nI (n := 2 + 1) (N := 5) (by omega) (by omega)) dL_acts_334 (fun H locs hP hD hS => ?_)
      rw [nI_clamp (show 2 + 1 < 2 ^ 31 by omega)] at hP hD
      have hP : va_P G.1 vwCl ((wL0 G q (upd (gF σ) (2 + 1) (nI ((v / 2) % 1001))) (rF σ) (aF σ) (bF σ)) ++ wX G ad σ T o n f x len) H := hP
      have hD : va_D A0 ((wL0 G q (upd (gF σ) (2 + 1) (nI ((v / 2) % 1001))) (rF σ) (aF σ) (bF σ)) ++ wX G ad σ T o n f x len) := hD
      have hP : va_P G.1 vwCl ((wL G q (su σ 3 (v / 2 % 1001))) ++ wX G ad σ T o n f x len) H := wL_x (gF_23 σ (Or.inr rfl) _) (lo_r σ (by omega) _) (lo_a σ (by omega) _) (lo_b σ (by omega) _) hP
      have hD : va_D A0 ((wL G q (su σ 3 (v / 2 % 1001))) ++ wX G ad σ T o n f x len) := wL_d hD
      refine lv_aload_n hx hb dL_acts_335 rfl (lv_at hl 2 rfl) ?_
      refine lv_iload hx hb dL_acts_336 (lv_at hl 1 rfl) ?_
      refine lv_aload_n hx hb dL_acts_338 rfl (lv_at hl 3 rfl) ?_
      refine lv_iconst (v := nI 2) hx hb dL_acts_339 (by decide) ?_
      refine lv_iload hx hb dL_acts_340 (lv_at hl 1 rfl) ?_
      refine lv_iadd hx hb dL_acts_342 ?_
      refine lv_topi (nm_r (e' := nI (2 + 1)) (nI_add _ _) ?_)
      refine va_iald hx hb hG.1 hP 0 0 rfl rfl (vp_in_nI (n := 2 + 1) (N := 5) (by omega) (by omega)) dL_acts_343 ?_
      refine lv_topi (nm_r (e' := nI ((su σ 3 (v / 2 % 1001)) 3)) (by rw [nI_clamp (by omega)]; exact if_neg (by omega)) ?_)
      refine lv_topi (nm_r (e' := (nI (v / 2 % 1001))) (congrArg nI (su_at _ _ _)) ?_)
      refine zwrR (G := G) (w1 := (wL G q (su σ 3 (v / 2 % 1001)))) (wc := wX G ad σ T o n f x len) (wc' := wX G ad (su σ 3 (v / 2 % 1001)) (upT T ((o + n) % 5) σ) (nO o n) (nN n) f x len) (va_runV (As := [.int (nI 1), .int (nI (v / 2 % 1001))]) (rest := []) ⟨hx, hb, hml, hown, hts⟩ (kX4_set_tol l G ad σ T o n f x len (v / 2 % 1001) (hO) (by omega) (by omega) (by omega) (zD_any (zD_r hD))) (cwV 2 hts gL_acts_X4_set rfl rfl rfl (by decide +kernel) ⟨Nat.le_of_ble_eq_true rfl, Nat.le_of_ble_eq_true rfl⟩) (zPreV hG (va_recv (q0 := 0) (ci := 4) hG.1 (zP_r hP) rfl rfl) (zP_r hP)) rfl rfl hl.1 rfl (lv_room (Nat.le_of_ble_eq_true rfl)) dL_acts_344 ⟨Nat.le_of_ble_eq_true rfl, Nat.le_of_ble_eq_true rfl⟩) hP hD hS (wX_map ..) (fun H locs hP hD hS => ?_)
      refine lv_iload hx hb dL_acts_347 (lv_at hl 0 rfl) ?_
      refine lv_icmp_ne (tgt := 356) hx hb dL_acts_349 (by decide) (fun h349 => ?_) (fun h349 => ?_)
      · skip
        exact absurd rfl h349
      · skip
        refine lv_iconst (v := nI 1) hx hb dL_acts_352 (by decide) ?_
        refine lv_goto (tgt := 357) hx hb dL_acts_353 (by decide) ?_
        exact hret _ _ _ _ _ _ _ _ _ dL_acts_357 hS (⟨(hO.su_tl (by omega)).up hN, cln_su hO hC (by omega) (fun k y hy => by omega) (fun e he => by omega), jO ho, jN hn, hM.su (by omega)⟩) hP
    · skip
      have h314 : 1 = 0 := (z_eq0 (by omega)).mp h314
      exfalso; omega
set_option maxHeartbeats 8000000 in
set_option maxRecDepth 100000 in
theorem ac_show {pr : Program} {l : Launch} {en : Env} {st : State} {mi : MethodId} {ar : Array Value} {bl : List Frame} {me : Method} {cd : Code} {Q : State → Prop} {G : zG} {q : Nat → Nat} {ad : Nat → Nat → Nat} {σ : Nat → Nat} {T : Nat → Nat → Nat} {o n : Nat} {f : Nat → Int32} {x : Nat → Nat} {len : Nat} {N : Nat} {A0 : Nat → Prop} {H : Heap} {locs : List Loc} {ls : Array Slot} {v k d p : Nat} (C0 : AC pr st mi ar cd G) (hJ : Jv N σ o n) (hN : N + 1 < 100000) (hv : v < 10000000) (hk : k < nS σ) (hd4 : d < 4) (hp : p < 10) (hP : va_P G.1 vwCl ((wL G q σ) ++ wX G ad σ T o n f x len) H) (hD : va_D A0 ((wL G q σ) ++ wX G ad σ T o n f x len)) (hS : va_S A0 st.heap H locs) (hl : lv_has ls 43 [(0, .ref (ad 0 0)), (1, .ref (q 0)), (2, .ref (q 1)), (3, .ref (q 2)), (4, .ref (q 3)), (6, .int (nI v)), (8, .int (nI k)), (9, .int (nI d)), (10, .int (nI p)), (11, .int (nI (4 * k + d)))]) (hret : AR pr l en st mi ar bl me cd Q G q ad x len A0 (N + 1)) : W pr l en (zRm 7 176) st mi ar bl me cd H locs 0 0 Q (F0 mi 358 ls []) := by
  obtain ⟨hx, hb, hml, hown, hts, hG⟩ := id C0
  obtain ⟨hO, hC, ho, hn, hM⟩ := id hJ
  have hc := hO.c
  have hs := hO.lS
  have hne := hO.lE
  have hM6 := hM.s
  have hM7 := hM.e
  have hM4 := hM.r
  have hM1 := hM.1
  have hM2 := hM.2
  have hNN := hO.N
  have hg2 := hO.2.2.1
  have hg3 := hO.2.2.2.1
  have hk6 : k < 6 := by omega
  have hsg := hO.sg (show k < 36 by omega) hd4 hp
  have hal := aN_lt hO (show k < 36 by omega) hd4
  refine lv_iload hx hb dL_acts_358 (lv_at hl 5 rfl) ?_
  refine lv_sipush (v := nI 240) hx hb dL_acts_360 (by decide) ?_
  refine lv_idiv hx hb dL_acts_363 (nI_ne0 (by omega) (by omega)) ?_
  refine lv_topi (nm_r (e' := nI (v / 240)) (pk_div (by omega) (by omega) (by omega)) ?_)
  have mg364 : W pr l en (zRm 7 176) st mi ar bl me cd H locs 0 0 Q (F0 mi 377 ls [.int (nI m3), .int (nI (v / 240))]) := by
    obtain ⟨sw, hsw⟩ : ∃ sw, sw = v / 240 % m3 := ⟨_, rfl⟩
    have hsw10 : sw < 10 := by have := Nat.mod_lt (v / 240) (show 0 < m3 by omega); omega
    have hml3 := Nat.mod_le (v / 240) m3
    refine lv_irem hx hb dL_acts_377 (nI_ne0 (by omega) (by omega)) ?_
    refine lv_topi (nm_r (e' := nI ((v / 240) % m3)) (pk_rem (by omega) (by omega) (by omega)) ?_)
    refine lv_topi (nm_r (e' := (nI sw)) (by rw [hsw]) ?_)
    refine lv_istore (lv' := [(17, .int (nI sw)), (0, .ref (ad 0 0)), (1, .ref (q 0)), (2, .ref (q 1)), (3, .ref (q 2)), (4, .ref (q 3)), (6, .int (nI v)), (8, .int (nI k)), (9, .int (nI d)), (10, .int (nI p)), (11, .int (nI (4 * k + d)))]) hx hb dL_acts_378 hl (by decide) rfl (fun ls hl => ?_)
    refine lv_aload_n hx hb dL_acts_380 rfl (lv_at hl 4 rfl) ?_
    refine lv_iload hx hb dL_acts_381 (lv_at hl 10 rfl) ?_
    refine va_lald hx hb hG.1 hP 2 3 rfl rfl (vp_in_nI (n := 4 * k + d) (N := 24) (by omega) (by omega)) dL_acts_383 ?_
    refine lv_topl (nm_r (e' := (lN (aN σ k d))) (by rw [nI_clamp (by omega)]; exact aF_at σ (by omega)) ?_)
    refine lv_lstore (lv' := [(18, .long (lN (aN σ k d))), (17, .int (nI sw)), (0, .ref (ad 0 0)), (1, .ref (q 0)), (2, .ref (q 1)), (3, .ref (q 2)), (4, .ref (q 3)), (6, .int (nI v)), (8, .int (nI k)), (9, .int (nI d)), (10, .int (nI p)), (11, .int (nI (4 * k + d)))]) hx hb dL_acts_384 hl (by decide) rfl (fun ls hl => ?_)
    refine lv_lload hx hb dL_acts_386 (lv_at hl 0 rfl) ?_
    refine lv_bipush (v := nI 11) hx hb dL_acts_388 (by decide) ?_
    refine lv_iload hx hb dL_acts_390 (lv_at hl 10 rfl) ?_
    refine zrdS (As := [.long (lN (aN σ k d)), .int (nI 11), .int (nI p)]) ⟨hx, hb, hml, hown, hts⟩ (kL_digit l G  (aN σ k d) 11 p (by omega) (by omega) (by omega) (by omega)) (va_cwS 3 hts gL_acts_L_digit rfl rfl rfl (by decide +kernel) ⟨Nat.le_of_ble_eq_true rfl, Nat.le_of_ble_eq_true rfl⟩) hG (trivial) rfl rfl hl.1 dL_acts_392 (Nat.le_of_ble_eq_true rfl) ⟨Nat.le_of_ble_eq_true rfl, Nat.le_of_ble_eq_true rfl⟩ ?_
    refine lv_topi (nm_r (e' := (nI (sgn σ k d p))) (congrArg nI (aN_dg hO (by omega) hd4 hp)) ?_)
    refine lv_istore (lv' := [(20, .int (nI (sgn σ k d p))), (18, .long (lN (aN σ k d))), (17, .int (nI sw)), (0, .ref (ad 0 0)), (1, .ref (q 0)), (2, .ref (q 1)), (3, .ref (q 2)), (4, .ref (q 3)), (6, .int (nI v)), (8, .int (nI k)), (9, .int (nI d)), (10, .int (nI p)), (11, .int (nI (4 * k + d)))]) hx hb dL_acts_395 hl (by decide) rfl (fun ls hl => ?_)
    refine lv_aload_n hx hb dL_acts_397 rfl (lv_at hl 6 rfl) ?_
    refine lv_iload hx hb dL_acts_398 (lv_at hl 12 rfl) ?_
    refine lv_dup2_11 hx hb dL_acts_400 rfl rfl ?_
    refine va_lald hx hb hG.1 hP 2 3 rfl rfl (vp_in_nI (n := 4 * k + d) (N := 24) (by omega) (by omega)) dL_acts_401 ?_
    refine lv_topl (nm_r (e' := (lN (aN σ k d))) (by rw [nI_clamp (by omega)]; exact aF_at σ (by omega)) ?_)
    refine lv_iload hx hb dL_acts_402 (lv_at hl 2 rfl) ?_
    refine lv_iload hx hb dL_acts_404 (lv_at hl 0 rfl) ?_
    refine lv_isub hx hb dL_acts_406 ?_
    refine lv_i2l hx hb dL_acts_407 rfl ?_
    refine lv_bipush (v := nI 11) hx hb dL_acts_408 (by decide) ?_
    refine lv_iload hx hb dL_acts_410 (lv_at hl 11 rfl) ?_
    refine zrdS (As := [.int (nI 11), .int (nI p)]) ⟨hx, hb, hml, hown, hts⟩ (kL_power l G  11 p (by omega) (by omega) (by omega)) (va_cwS 2 hts gL_acts_L_power rfl rfl rfl (by decide +kernel) ⟨Nat.le_of_ble_eq_true rfl, Nat.le_of_ble_eq_true rfl⟩) hG (trivial) rfl rfl hl.1 dL_acts_412 (Nat.le_of_ble_eq_true rfl) ⟨Nat.le_of_ble_eq_true rfl, Nat.le_of_ble_eq_true rfl⟩ ?_
    refine lv_lmul hx hb dL_acts_415 ?_
    refine lv_ladd hx hb dL_acts_416 ?_
    refine lv_topl (nm_r (e' := (lN (aN (su σ (64 + 53 * k + (10 * d + p)) sw) k d))) (zl_up (by omega) (by omega) (aN_up σ hp sw)) ?_)
    refine va_last hx hb hG.1 hP hD hS 2 3 rfl rfl (vp_in_nI (n := 4 * k + d) (N := 24) (by omega) (by omega)) dL_acts_417 (fun H locs hP hD hS => ?_)
    rw [nI_clamp (show 4 * k + d < 2 ^ 31 by omega)] at hP hD
    have hP : va_P G.1 vwCl ((wL0 G q (gF σ) (rF σ) (vp_updL (aF σ) (4 * k + d) (lN (aN (su σ (64 + 53 * k + (10 * d + p)) sw) k d))) (bF σ)) ++ wX G ad σ T o n f x len) H := hP
    have hD : va_D A0 ((wL0 G q (gF σ) (rF σ) (vp_updL (aF σ) (4 * k + d) (lN (aN (su σ (64 + 53 * k + (10 * d + p)) sw) k d))) (bF σ)) ++ wX G ad σ T o n f x len) := hD
    have hP : va_P G.1 vwCl ((wL G q (su σ (64 + 53 * k + (10 * d + p)) sw)) ++ wX G ad σ T o n f x len) H := wL_x (sg_g σ k d p sw) (sg_r σ hd4 hp sw) (sg_a σ hd4 hp sw) (sg_b σ hd4 hp sw) hP
    have hD : va_D A0 ((wL G q (su σ (64 + 53 * k + (10 * d + p)) sw)) ++ wX G ad σ T o n f x len) := wL_d hD
    obtain ⟨hT, hOwn⟩ : Ok N (su σ (64 + 53 * k + (10 * d + p)) sw) ∧ Own k σ (su σ (64 + 53 * k + (10 * d + p)) sw) := ⟨hO.su_sg (by omega) (by omega), own_sg σ hd4 hp sw⟩
    obtain ⟨R1, R2, R3, R4, R5, R6⟩ := rfs hO hT hN hC hM hk hOwn
    by_cases hrf : rfsd (su σ (64 + 53 * k + (10 * d + p)) sw) k
    · skip
      refine lv_aload_n hx hb dL_acts_418 rfl (lv_at hl 3 rfl) ?_
      refine lv_iload hx hb dL_acts_419 (lv_at hl 9 rfl) ?_
      refine lv_iload hx hb dL_acts_421 (lv_at hl 10 rfl) ?_
      refine lv_iload hx hb dL_acts_423 (lv_at hl 11 rfl) ?_
      refine lv_iload hx hb dL_acts_425 (lv_at hl 2 rfl) ?_
      refine zwrR (G := G) (w1 := (wL G q (su σ (64 + 53 * k + (10 * d + p)) sw))) (wc := wX G ad σ T o n f x len) (wc' := wX G ad σ (upT T ((o + n) % 5) σ) o n f x len) (va_runV (As := [.int (nI k), .int (nI d), .int (nI p), .int (nI sw)]) (rest := []) ⟨hx, hb, hml, hown, hts⟩ (kX4_show_no l G ad σ T o n f x len k d p sw (hO) (by omega) (by omega) (by omega) (by omega) (by omega) (by omega) (hrf) (zD_any (zD_r hD))) (cwV 4 hts gL_acts_X4_show rfl rfl rfl (by decide +kernel) ⟨Nat.le_of_ble_eq_true rfl, Nat.le_of_ble_eq_true rfl⟩) (zPreV hG (va_recv (q0 := 0) (ci := 4) hG.1 (zP_r hP) rfl rfl) (zP_r hP)) rfl rfl hl.1 rfl (lv_room (Nat.le_of_ble_eq_true rfl)) dL_acts_427 ⟨Nat.le_of_ble_eq_true rfl, Nat.le_of_ble_eq_true rfl⟩) hP hD hS (wX_map ..) (fun H locs hP hD hS => ?_)
      refine lv_aload_n hx hb dL_acts_430 rfl (lv_at hl 4 rfl) ?_
      refine lv_aload_n hx hb dL_acts_431 rfl (lv_at hl 5 rfl) ?_
      refine lv_aload_n hx hb dL_acts_432 rfl (lv_at hl 6 rfl) ?_
      refine lv_aload hx hb dL_acts_433 (lv_at hl 7 rfl) ?_
      refine lv_iload hx hb dL_acts_435 (lv_at hl 9 rfl) ?_
      refine lv_iload hx hb dL_acts_437 (lv_at hl 12 rfl) ?_
      refine lv_lload hx hb dL_acts_439 (lv_at hl 1 rfl) ?_
      refine lv_iconst (v := nI 0) hx hb dL_acts_441 (by decide) ?_
      refine zwrL (G := G) (wc := (wL G q (su σ (64 + 53 * k + (10 * d + p)) sw))) (wc' := (wL G q σ)) (w2 := wX G ad σ (upT T ((o + n) % 5) σ) o n f x len) (va_runS (As := [.ref (q 0), .ref (q 1), .ref (q 2), .ref (q 3), .int (nI k), .int (nI (4 * k + d)), .long (lN (aN σ k d)), .int (nI 0)]) (rest := [.int (-2)]) ⟨hx, hb, hml, hown, hts⟩ (kL_keeps_no l G q (su σ (64 + 53 * k + (10 * d + p)) sw) σ k (4 * k + d) (aN σ k d) hT R6 (by omega) (R1.mp hrf).1 (R1.mp hrf).2 (fun j hj => (sg_g σ k d p sw j hj).symm) (fun j hj => (sg_r σ hd4 hp sw j hj).symm) (sg_back σ hd4 hp sw) (fun j hj => (sg_b σ hd4 hp sw j hj).symm) (by omega) (zD_any (zD_l hD)) ) (va_cwS 8 hts gL_acts_L_keeps rfl rfl rfl (by decide +kernel) ⟨Nat.le_of_ble_eq_true rfl, Nat.le_of_ble_eq_true rfl⟩) (zPre hG (zP_l hP)) rfl rfl hl.1 rfl (lv_room (Nat.le_of_ble_eq_true rfl)) dL_acts_442 ⟨Nat.le_of_ble_eq_true rfl, Nat.le_of_ble_eq_true rfl⟩) hP hD hS rfl (fun H locs hP hD hS => ?_)
      refine lv_if_eq (tgt := 453) hx hb dL_acts_445 (by decide) (fun h445 => ?_) (fun h445 => ?_)
      · skip
        have h445 : 0 = 0 := (z_eq0 (by omega)).mp h445
        refine lv_bipush (v := (-2)) hx hb dL_acts_453 (by decide) ?_
        refine lv_icmp_ne (tgt := 462) hx hb dL_acts_455 (by decide) (fun h455 => ?_) (fun h455 => ?_)
        · skip
          exact absurd rfl h455
        · skip
          refine lv_iconst (v := nI 1) hx hb dL_acts_458 (by decide) ?_
          refine lv_goto (tgt := 463) hx hb dL_acts_459 (by decide) ?_
          exact hret _ _ _ _ _ _ _ _ _ dL_acts_463 hS (⟨hO.up hN, hC, ho, hn, hM⟩) hP
      · skip
        have h445 : ¬ (0 = 0) := fun q => h445 ((z_eq0 (by omega)).mpr q)
        have h445 : 0 < 0 := Nat.pos_of_ne_zero h445
        exfalso; omega
    · skip
      refine lv_aload_n hx hb dL_acts_418 rfl (lv_at hl 3 rfl) ?_
      refine lv_iload hx hb dL_acts_419 (lv_at hl 9 rfl) ?_
      refine lv_iload hx hb dL_acts_421 (lv_at hl 10 rfl) ?_
      refine lv_iload hx hb dL_acts_423 (lv_at hl 11 rfl) ?_
      refine lv_iload hx hb dL_acts_425 (lv_at hl 2 rfl) ?_
      refine zwrR (G := G) (w1 := (wL G q (su σ (64 + 53 * k + (10 * d + p)) sw))) (wc := wX G ad σ T o n f x len) (wc' := wX G ad (endS (su σ (64 + 53 * k + (10 * d + p)) sw) k) (upT T ((o + n) % 5) σ) (nO o n) (nN n) f x len) (va_runV (As := [.int (nI k), .int (nI d), .int (nI p), .int (nI sw)]) (rest := []) ⟨hx, hb, hml, hown, hts⟩ (kX4_show_ok l G ad σ T o n f x len k d p sw (hO) (by omega) (by omega) (by omega) (by omega) (by omega) (by omega) (hrf) (zD_any (zD_r hD))) (cwV 4 hts gL_acts_X4_show rfl rfl rfl (by decide +kernel) ⟨Nat.le_of_ble_eq_true rfl, Nat.le_of_ble_eq_true rfl⟩) (zPreV hG (va_recv (q0 := 0) (ci := 4) hG.1 (zP_r hP) rfl rfl) (zP_r hP)) rfl rfl hl.1 rfl (lv_room (Nat.le_of_ble_eq_true rfl)) dL_acts_427 ⟨Nat.le_of_ble_eq_true rfl, Nat.le_of_ble_eq_true rfl⟩) hP hD hS (wX_map ..) (fun H locs hP hD hS => ?_)
      refine lv_aload_n hx hb dL_acts_430 rfl (lv_at hl 4 rfl) ?_
      refine lv_aload_n hx hb dL_acts_431 rfl (lv_at hl 5 rfl) ?_
      refine lv_aload_n hx hb dL_acts_432 rfl (lv_at hl 6 rfl) ?_
      refine lv_aload hx hb dL_acts_433 (lv_at hl 7 rfl) ?_
      refine lv_iload hx hb dL_acts_435 (lv_at hl 9 rfl) ?_
      refine lv_iload hx hb dL_acts_437 (lv_at hl 12 rfl) ?_
      refine lv_lload hx hb dL_acts_439 (lv_at hl 1 rfl) ?_
      refine lv_iconst (v := nI 0) hx hb dL_acts_441 (by decide) ?_
      refine zwrL (G := G) (wc := (wL G q (su σ (64 + 53 * k + (10 * d + p)) sw))) (wc' := (wL G q (kpS (su σ (64 + 53 * k + (10 * d + p)) sw) k))) (w2 := wX G ad (endS (su σ (64 + 53 * k + (10 * d + p)) sw) k) (upT T ((o + n) % 5) σ) (nO o n) (nN n) f x len) (va_runS (As := [.ref (q 0), .ref (q 1), .ref (q 2), .ref (q 3), .int (nI k), .int (nI (4 * k + d)), .long (lN (aN σ k d)), .int (nI 0)]) (rest := [.int (nI (sgn σ k d p))]) ⟨hx, hb, hml, hown, hts⟩ (kL_keeps_ok l G q (su σ (64 + 53 * k + (10 * d + p)) sw) k (4 * k + d) (aN σ k d) 0 hT R6 (by omega) (fun z => hrf (R1.mpr z)) (zD_any (zD_l hD)) ) (va_cwS 8 hts gL_acts_L_keeps rfl rfl rfl (by decide +kernel) ⟨Nat.le_of_ble_eq_true rfl, Nat.le_of_ble_eq_true rfl⟩) (zPre hG (zP_l hP)) rfl rfl hl.1 rfl (lv_room (Nat.le_of_ble_eq_true rfl)) dL_acts_442 ⟨Nat.le_of_ble_eq_true rfl, Nat.le_of_ble_eq_true rfl⟩) hP hD hS rfl (fun H locs hP hD hS => ?_)
      rw [← R2] at hP hD
      refine lv_if_eq (tgt := 453) hx hb dL_acts_445 (by decide) (fun h445 => ?_) (fun h445 => ?_)
      · skip
        have h445 : 1 = 0 := (z_eq0 (by omega)).mp h445
        exfalso; omega
      · skip
        have h445 : ¬ (1 = 0) := fun q => h445 ((z_eq0 (by omega)).mpr q)
        have h445 : 0 < 1 := Nat.pos_of_ne_zero h445
        refine lv_iload hx hb dL_acts_448 (lv_at hl 0 rfl) ?_
        refine lv_goto (tgt := 455) hx hb dL_acts_450 (by decide) ?_
        refine lv_icmp_ne (tgt := 462) hx hb dL_acts_455 (by decide) (fun h455 => ?_) (fun h455 => ?_)
        · skip
          exact absurd rfl h455
        · skip
          refine lv_iconst (v := nI 1) hx hb dL_acts_458 (by decide) ?_
          refine lv_goto (tgt := 463) hx hb dL_acts_459 (by decide) ?_
          exact hret _ _ _ _ _ _ _ _ _ dL_acts_463 hS (⟨R4, R3, jO ho, jN hn, R5⟩) hP
  have hm10 : 1 ≤ (if v % 3 = 0 then 10 else 3) ∧ (if v % 3 = 0 then 10 else 3) ≤ 10 := by by_cases z : v % 3 = 0 <;> simp [z]
  obtain ⟨m3, hm3⟩ : ∃ m3, m3 = (if v % 3 = 0 then 10 else 3) := ⟨_, rfl⟩
  rw [← hm3] at hm10
  refine lv_iload hx hb dL_acts_364 (lv_at hl 5 rfl) ?_
  refine lv_iconst (v := nI 3) hx hb dL_acts_366 (by decide) ?_
  refine lv_irem hx hb dL_acts_367 (nI_ne0 (by omega) (by omega)) ?_
  refine lv_topi (nm_r (e' := nI (v % 3)) (pk_rem (by omega) (by omega) (by omega)) ?_)
  refine lv_if_ne (tgt := 376) hx hb dL_acts_368 (by decide) (fun h368 => ?_) (fun h368 => ?_)
  · skip
    have h368 : ¬ ((v % 3) = 0) := fun q => h368 ((z_eq0 (by omega)).mpr q)
    have h368 : 0 < (v % 3) := Nat.pos_of_ne_zero h368
    refine lv_iconst (v := nI 3) hx hb dL_acts_376 (by decide) ?_
    refine lv_topi (nm_r (e' := (nI m3)) (by rw [hm3, if_neg (by omega)]) ?_)
    exact mg364
  · skip
    have h368 : (v % 3) = 0 := (z_eq0 (by omega)).mp h368
    refine lv_bipush (v := nI 10) hx hb dL_acts_371 (by decide) ?_
    refine lv_goto (tgt := 377) hx hb dL_acts_373 (by decide) ?_
    refine lv_topi (nm_r (e' := (nI m3)) (by rw [hm3, if_pos (by omega)]) ?_)
    exact mg364
set_option maxHeartbeats 8000000 in
set_option maxRecDepth 100000 in
theorem ac_erase {pr : Program} {l : Launch} {en : Env} {st : State} {mi : MethodId} {ar : Array Value} {bl : List Frame} {me : Method} {cd : Code} {Q : State → Prop} {G : zG} {q : Nat → Nat} {ad : Nat → Nat → Nat} {σ : Nat → Nat} {T : Nat → Nat → Nat} {o n : Nat} {f : Nat → Int32} {x : Nat → Nat} {len : Nat} {N : Nat} {A0 : Nat → Prop} {H : Heap} {locs : List Loc} {ls : Array Slot} {v k d p : Nat} (C0 : AC pr st mi ar cd G) (hJ : Jv N σ o n) (hN : N + 1 < 100000) (hv : v < 10000000) (hk : k < nS σ) (hd4 : d < 4) (hp : p < 10) (hP : va_P G.1 vwCl ((wL G q σ) ++ wX G ad σ T o n f x len) H) (hD : va_D A0 ((wL G q σ) ++ wX G ad σ T o n f x len)) (hS : va_S A0 st.heap H locs) (hl : lv_has ls 43 [(0, .ref (ad 0 0)), (1, .ref (q 0)), (2, .ref (q 1)), (3, .ref (q 2)), (4, .ref (q 3)), (6, .int (nI v)), (8, .int (nI k)), (9, .int (nI d)), (10, .int (nI p)), (11, .int (nI (4 * k + d)))]) (hret : AR pr l en st mi ar bl me cd Q G q ad x len A0 (N + 1)) : W pr l en (zRm 7 176) st mi ar bl me cd H locs 0 0 Q (F0 mi 464 ls []) := by
  obtain ⟨hx, hb, hml, hown, hts, hG⟩ := id C0
  obtain ⟨hO, hC, ho, hn, hM⟩ := id hJ
  have hc := hO.c
  have hs := hO.lS
  have hne := hO.lE
  have hM6 := hM.s
  have hM7 := hM.e
  have hM4 := hM.r
  have hM1 := hM.1
  have hM2 := hM.2
  have hNN := hO.N
  have hg2 := hO.2.2.1
  have hg3 := hO.2.2.2.1
  have hk6 : k < 6 := by omega
  have hsg := hO.sg (show k < 36 by omega) hd4 hp
  have hal := aN_lt hO (show k < 36 by omega) hd4
  refine lv_aload_n hx hb dL_acts_464 rfl (lv_at hl 3 rfl) ?_
  refine lv_iload hx hb dL_acts_465 (lv_at hl 9 rfl) ?_
  refine va_lald hx hb hG.1 hP 2 3 rfl rfl (vp_in_nI (n := 4 * k + d) (N := 24) (by omega) (by omega)) dL_acts_467 ?_
  refine lv_topl (nm_r (e' := (lN (aN σ k d))) (by rw [nI_clamp (by omega)]; exact aF_at σ (by omega)) ?_)
  refine lv_lstore (lv' := [(21, .long (lN (aN σ k d))), (0, .ref (ad 0 0)), (1, .ref (q 0)), (2, .ref (q 1)), (3, .ref (q 2)), (4, .ref (q 3)), (6, .int (nI v)), (8, .int (nI k)), (9, .int (nI d)), (10, .int (nI p)), (11, .int (nI (4 * k + d)))]) hx hb dL_acts_468 hl (by decide) rfl (fun ls hl => ?_)
  refine lv_lload hx hb dL_acts_470 (lv_at hl 0 rfl) ?_
  refine lv_bipush (v := nI 11) hx hb dL_acts_472 (by decide) ?_
  refine lv_iload hx hb dL_acts_474 (lv_at hl 9 rfl) ?_
  refine zrdS (As := [.long (lN (aN σ k d)), .int (nI 11), .int (nI p)]) ⟨hx, hb, hml, hown, hts⟩ (kL_digit l G  (aN σ k d) 11 p (by omega) (by omega) (by omega) (by omega)) (va_cwS 3 hts gL_acts_L_digit rfl rfl rfl (by decide +kernel) ⟨Nat.le_of_ble_eq_true rfl, Nat.le_of_ble_eq_true rfl⟩) hG (trivial) rfl rfl hl.1 dL_acts_476 (Nat.le_of_ble_eq_true rfl) ⟨Nat.le_of_ble_eq_true rfl, Nat.le_of_ble_eq_true rfl⟩ ?_
  refine lv_topi (nm_r (e' := (nI (sgn σ k d p))) (congrArg nI (aN_dg hO (by omega) hd4 hp)) ?_)
  refine lv_istore (lv' := [(23, .int (nI (sgn σ k d p))), (21, .long (lN (aN σ k d))), (0, .ref (ad 0 0)), (1, .ref (q 0)), (2, .ref (q 1)), (3, .ref (q 2)), (4, .ref (q 3)), (6, .int (nI v)), (8, .int (nI k)), (9, .int (nI d)), (10, .int (nI p)), (11, .int (nI (4 * k + d)))]) hx hb dL_acts_479 hl (by decide) rfl (fun ls hl => ?_)
  refine lv_iload hx hb dL_acts_481 (lv_at hl 0 rfl) ?_
  refine lv_bipush (v := nI 10) hx hb dL_acts_483 (by decide) ?_
  refine lv_icmp_ne (tgt := 509) hx hb dL_acts_485 (by decide) (fun h485 => ?_) (fun h485 => ?_)
  · skip
    have h485 : ¬ ((sgn σ k d p) = 10) := fun q => h485 ((nI_eq (by omega) (by omega)).mpr q)
    refine lv_aload_n hx hb dL_acts_509 rfl (lv_at hl 5 rfl) ?_
    refine lv_iload hx hb dL_acts_510 (lv_at hl 11 rfl) ?_
    refine lv_dup2_11 hx hb dL_acts_512 rfl rfl ?_
    refine va_lald hx hb hG.1 hP 2 3 rfl rfl (vp_in_nI (n := 4 * k + d) (N := 24) (by omega) (by omega)) dL_acts_513 ?_
    refine lv_topl (nm_r (e' := (lN (aN σ k d))) (by rw [nI_clamp (by omega)]; exact aF_at σ (by omega)) ?_)
    refine lv_bipush (v := nI 10) hx hb dL_acts_514 (by decide) ?_
    refine lv_iload hx hb dL_acts_516 (lv_at hl 0 rfl) ?_
    refine lv_isub hx hb dL_acts_518 ?_
    refine lv_i2l hx hb dL_acts_519 rfl ?_
    refine lv_bipush (v := nI 11) hx hb dL_acts_520 (by decide) ?_
    refine lv_iload hx hb dL_acts_522 (lv_at hl 10 rfl) ?_
    refine zrdS (As := [.int (nI 11), .int (nI p)]) ⟨hx, hb, hml, hown, hts⟩ (kL_power l G  11 p (by omega) (by omega) (by omega)) (va_cwS 2 hts gL_acts_L_power rfl rfl rfl (by decide +kernel) ⟨Nat.le_of_ble_eq_true rfl, Nat.le_of_ble_eq_true rfl⟩) hG (trivial) rfl rfl hl.1 dL_acts_524 (Nat.le_of_ble_eq_true rfl) ⟨Nat.le_of_ble_eq_true rfl, Nat.le_of_ble_eq_true rfl⟩ ?_
    refine lv_lmul hx hb dL_acts_527 ?_
    refine lv_ladd hx hb dL_acts_528 ?_
    refine lv_topl (nm_r (e' := (lN (aN (su σ (64 + 53 * k + (10 * d + p)) 10) k d))) (zl_up (by omega) (by omega) (aN_up σ hp 10)) ?_)
    refine va_last hx hb hG.1 hP hD hS 2 3 rfl rfl (vp_in_nI (n := 4 * k + d) (N := 24) (by omega) (by omega)) dL_acts_529 (fun H locs hP hD hS => ?_)
    rw [nI_clamp (show 4 * k + d < 2 ^ 31 by omega)] at hP hD
    have hP : va_P G.1 vwCl ((wL0 G q (gF σ) (rF σ) (vp_updL (aF σ) (4 * k + d) (lN (aN (su σ (64 + 53 * k + (10 * d + p)) 10) k d))) (bF σ)) ++ wX G ad σ T o n f x len) H := hP
    have hD : va_D A0 ((wL0 G q (gF σ) (rF σ) (vp_updL (aF σ) (4 * k + d) (lN (aN (su σ (64 + 53 * k + (10 * d + p)) 10) k d))) (bF σ)) ++ wX G ad σ T o n f x len) := hD
    have hP : va_P G.1 vwCl ((wL G q (su σ (64 + 53 * k + (10 * d + p)) 10)) ++ wX G ad σ T o n f x len) H := wL_x (sg_g σ k d p 10) (sg_r σ hd4 hp 10) (sg_a σ hd4 hp 10) (sg_b σ hd4 hp 10) hP
    have hD : va_D A0 ((wL G q (su σ (64 + 53 * k + (10 * d + p)) 10)) ++ wX G ad σ T o n f x len) := wL_d hD
    obtain ⟨hT, hOwn⟩ : Ok N (su σ (64 + 53 * k + (10 * d + p)) 10) ∧ Own k σ (su σ (64 + 53 * k + (10 * d + p)) 10) := ⟨hO.su_sg (by omega) (by omega), own_sg σ hd4 hp 10⟩
    obtain ⟨R1, R2, R3, R4, R5, R6⟩ := rfs hO hT hN hC hM hk hOwn
    by_cases hrf : rfsd (su σ (64 + 53 * k + (10 * d + p)) 10) k
    · skip
      refine lv_aload_n hx hb dL_acts_530 rfl (lv_at hl 2 rfl) ?_
      refine lv_iload hx hb dL_acts_531 (lv_at hl 8 rfl) ?_
      refine lv_iload hx hb dL_acts_533 (lv_at hl 9 rfl) ?_
      refine lv_iload hx hb dL_acts_535 (lv_at hl 10 rfl) ?_
      refine zwrR (G := G) (w1 := (wL G q (su σ (64 + 53 * k + (10 * d + p)) 10))) (wc := wX G ad σ T o n f x len) (wc' := wX G ad σ (upT T ((o + n) % 5) σ) o n f x len) (va_runV (As := [.int (nI k), .int (nI d), .int (nI p)]) (rest := []) ⟨hx, hb, hml, hown, hts⟩ (kX4_erase_no l G ad σ T o n f x len k d p (hO) (by omega) (by omega) (by omega) (by omega) (by omega) (h485) (hrf) (zD_any (zD_r hD))) (cwV 3 hts gL_acts_X4_erase rfl rfl rfl (by decide +kernel) ⟨Nat.le_of_ble_eq_true rfl, Nat.le_of_ble_eq_true rfl⟩) (zPreV hG (va_recv (q0 := 0) (ci := 4) hG.1 (zP_r hP) rfl rfl) (zP_r hP)) rfl rfl hl.1 rfl (lv_room (Nat.le_of_ble_eq_true rfl)) dL_acts_537 ⟨Nat.le_of_ble_eq_true rfl, Nat.le_of_ble_eq_true rfl⟩) hP hD hS (wX_map ..) (fun H locs hP hD hS => ?_)
      refine lv_aload_n hx hb dL_acts_540 rfl (lv_at hl 3 rfl) ?_
      refine lv_aload_n hx hb dL_acts_541 rfl (lv_at hl 4 rfl) ?_
      refine lv_aload_n hx hb dL_acts_542 rfl (lv_at hl 5 rfl) ?_
      refine lv_aload hx hb dL_acts_543 (lv_at hl 6 rfl) ?_
      refine lv_iload hx hb dL_acts_545 (lv_at hl 8 rfl) ?_
      refine lv_iload hx hb dL_acts_547 (lv_at hl 11 rfl) ?_
      refine lv_lload hx hb dL_acts_549 (lv_at hl 1 rfl) ?_
      refine lv_iconst (v := nI 0) hx hb dL_acts_551 (by decide) ?_
      refine zwrL (G := G) (wc := (wL G q (su σ (64 + 53 * k + (10 * d + p)) 10))) (wc' := (wL G q σ)) (w2 := wX G ad σ (upT T ((o + n) % 5) σ) o n f x len) (va_runS (As := [.ref (q 0), .ref (q 1), .ref (q 2), .ref (q 3), .int (nI k), .int (nI (4 * k + d)), .long (lN (aN σ k d)), .int (nI 0)]) (rest := [.int (-2)]) ⟨hx, hb, hml, hown, hts⟩ (kL_keeps_no l G q (su σ (64 + 53 * k + (10 * d + p)) 10) σ k (4 * k + d) (aN σ k d) hT R6 (by omega) (R1.mp hrf).1 (R1.mp hrf).2 (fun j hj => (sg_g σ k d p 10 j hj).symm) (fun j hj => (sg_r σ hd4 hp 10 j hj).symm) (sg_back σ hd4 hp 10) (fun j hj => (sg_b σ hd4 hp 10 j hj).symm) (by omega) (zD_any (zD_l hD)) ) (va_cwS 8 hts gL_acts_L_keeps rfl rfl rfl (by decide +kernel) ⟨Nat.le_of_ble_eq_true rfl, Nat.le_of_ble_eq_true rfl⟩) (zPre hG (zP_l hP)) rfl rfl hl.1 rfl (lv_room (Nat.le_of_ble_eq_true rfl)) dL_acts_552 ⟨Nat.le_of_ble_eq_true rfl, Nat.le_of_ble_eq_true rfl⟩) hP hD hS rfl (fun H locs hP hD hS => ?_)
      refine lv_if_eq (tgt := 563) hx hb dL_acts_555 (by decide) (fun h555 => ?_) (fun h555 => ?_)
      · skip
        have h555 : 0 = 0 := (z_eq0 (by omega)).mp h555
        refine lv_bipush (v := (-2)) hx hb dL_acts_563 (by decide) ?_
        refine lv_icmp_ne (tgt := 572) hx hb dL_acts_565 (by decide) (fun h565 => ?_) (fun h565 => ?_)
        · skip
          exact absurd rfl h565
        · skip
          refine lv_iconst (v := nI 1) hx hb dL_acts_568 (by decide) ?_
          refine lv_goto (tgt := 573) hx hb dL_acts_569 (by decide) ?_
          exact hret _ _ _ _ _ _ _ _ _ dL_acts_573 hS (⟨hO.up hN, hC, ho, hn, hM⟩) hP
      · skip
        have h555 : ¬ (0 = 0) := fun q => h555 ((z_eq0 (by omega)).mpr q)
        have h555 : 0 < 0 := Nat.pos_of_ne_zero h555
        exfalso; omega
    · skip
      refine lv_aload_n hx hb dL_acts_530 rfl (lv_at hl 2 rfl) ?_
      refine lv_iload hx hb dL_acts_531 (lv_at hl 8 rfl) ?_
      refine lv_iload hx hb dL_acts_533 (lv_at hl 9 rfl) ?_
      refine lv_iload hx hb dL_acts_535 (lv_at hl 10 rfl) ?_
      refine zwrR (G := G) (w1 := (wL G q (su σ (64 + 53 * k + (10 * d + p)) 10))) (wc := wX G ad σ T o n f x len) (wc' := wX G ad (endS (su σ (64 + 53 * k + (10 * d + p)) 10) k) (upT T ((o + n) % 5) σ) (nO o n) (nN n) f x len) (va_runV (As := [.int (nI k), .int (nI d), .int (nI p)]) (rest := []) ⟨hx, hb, hml, hown, hts⟩ (kX4_erase_ok l G ad σ T o n f x len k d p (hO) (by omega) (by omega) (by omega) (by omega) (by omega) (h485) (hrf) (zD_any (zD_r hD))) (cwV 3 hts gL_acts_X4_erase rfl rfl rfl (by decide +kernel) ⟨Nat.le_of_ble_eq_true rfl, Nat.le_of_ble_eq_true rfl⟩) (zPreV hG (va_recv (q0 := 0) (ci := 4) hG.1 (zP_r hP) rfl rfl) (zP_r hP)) rfl rfl hl.1 rfl (lv_room (Nat.le_of_ble_eq_true rfl)) dL_acts_537 ⟨Nat.le_of_ble_eq_true rfl, Nat.le_of_ble_eq_true rfl⟩) hP hD hS (wX_map ..) (fun H locs hP hD hS => ?_)
      refine lv_aload_n hx hb dL_acts_540 rfl (lv_at hl 3 rfl) ?_
      refine lv_aload_n hx hb dL_acts_541 rfl (lv_at hl 4 rfl) ?_
      refine lv_aload_n hx hb dL_acts_542 rfl (lv_at hl 5 rfl) ?_
      refine lv_aload hx hb dL_acts_543 (lv_at hl 6 rfl) ?_
      refine lv_iload hx hb dL_acts_545 (lv_at hl 8 rfl) ?_
      refine lv_iload hx hb dL_acts_547 (lv_at hl 11 rfl) ?_
      refine lv_lload hx hb dL_acts_549 (lv_at hl 1 rfl) ?_
      refine lv_iconst (v := nI 0) hx hb dL_acts_551 (by decide) ?_
      refine zwrL (G := G) (wc := (wL G q (su σ (64 + 53 * k + (10 * d + p)) 10))) (wc' := (wL G q (kpS (su σ (64 + 53 * k + (10 * d + p)) 10) k))) (w2 := wX G ad (endS (su σ (64 + 53 * k + (10 * d + p)) 10) k) (upT T ((o + n) % 5) σ) (nO o n) (nN n) f x len) (va_runS (As := [.ref (q 0), .ref (q 1), .ref (q 2), .ref (q 3), .int (nI k), .int (nI (4 * k + d)), .long (lN (aN σ k d)), .int (nI 0)]) (rest := [.int (nI (sgn σ k d p))]) ⟨hx, hb, hml, hown, hts⟩ (kL_keeps_ok l G q (su σ (64 + 53 * k + (10 * d + p)) 10) k (4 * k + d) (aN σ k d) 0 hT R6 (by omega) (fun z => hrf (R1.mpr z)) (zD_any (zD_l hD)) ) (va_cwS 8 hts gL_acts_L_keeps rfl rfl rfl (by decide +kernel) ⟨Nat.le_of_ble_eq_true rfl, Nat.le_of_ble_eq_true rfl⟩) (zPre hG (zP_l hP)) rfl rfl hl.1 rfl (lv_room (Nat.le_of_ble_eq_true rfl)) dL_acts_552 ⟨Nat.le_of_ble_eq_true rfl, Nat.le_of_ble_eq_true rfl⟩) hP hD hS rfl (fun H locs hP hD hS => ?_)
      rw [← R2] at hP hD
      refine lv_if_eq (tgt := 563) hx hb dL_acts_555 (by decide) (fun h555 => ?_) (fun h555 => ?_)
      · skip
        have h555 : 1 = 0 := (z_eq0 (by omega)).mp h555
        exfalso; omega
      · skip
        have h555 : ¬ (1 = 0) := fun q => h555 ((z_eq0 (by omega)).mpr q)
        have h555 : 0 < 1 := Nat.pos_of_ne_zero h555
        refine lv_iload hx hb dL_acts_558 (lv_at hl 0 rfl) ?_
        refine lv_goto (tgt := 565) hx hb dL_acts_560 (by decide) ?_
        refine lv_icmp_ne (tgt := 572) hx hb dL_acts_565 (by decide) (fun h565 => ?_) (fun h565 => ?_)
        · skip
          exact absurd rfl h565
        · skip
          refine lv_iconst (v := nI 1) hx hb dL_acts_568 (by decide) ?_
          refine lv_goto (tgt := 573) hx hb dL_acts_569 (by decide) ?_
          exact hret _ _ _ _ _ _ _ _ _ dL_acts_573 hS (⟨R4, R3, jO ho, jN hn, R5⟩) hP
  · skip
    have h485 : (sgn σ k d p) = 10 := (nI_eq (by omega) (by omega)).mp h485
    refine lv_aload_n hx hb dL_acts_488 rfl (lv_at hl 2 rfl) ?_
    refine lv_iload hx hb dL_acts_489 (lv_at hl 8 rfl) ?_
    refine lv_iload hx hb dL_acts_491 (lv_at hl 9 rfl) ?_
    refine lv_iload hx hb dL_acts_493 (lv_at hl 10 rfl) ?_
    refine zwrR (G := G) (w1 := (wL G q σ)) (wc := wX G ad σ T o n f x len) (wc' := wX G ad σ T o n f x len) (va_runV (As := [.int (nI k), .int (nI d), .int (nI p)]) (rest := []) ⟨hx, hb, hml, hown, hts⟩ (kX4_erase_none l G ad σ T o n f x len k d p (hO) (by omega) (by omega) (by omega) (by omega) (by omega) (h485) (zD_any (zD_r hD))) (cwV 3 hts gL_acts_X4_erase rfl rfl rfl (by decide +kernel) ⟨Nat.le_of_ble_eq_true rfl, Nat.le_of_ble_eq_true rfl⟩) (zPreV hG (va_recv (q0 := 0) (ci := 4) hG.1 (zP_r hP) rfl rfl) (zP_r hP)) rfl rfl hl.1 rfl (lv_room (Nat.le_of_ble_eq_true rfl)) dL_acts_495 ⟨Nat.le_of_ble_eq_true rfl, Nat.le_of_ble_eq_true rfl⟩) hP hD hS (wX_map ..) (fun H locs hP hD hS => ?_)
    refine lv_bipush (v := (-2)) hx hb dL_acts_498 (by decide) ?_
    refine lv_icmp_ne (tgt := 507) hx hb dL_acts_500 (by decide) (fun h500 => ?_) (fun h500 => ?_)
    · skip
      exact absurd rfl h500
    · skip
      refine lv_iconst (v := nI 1) hx hb dL_acts_503 (by decide) ?_
      refine lv_goto (tgt := 508) hx hb dL_acts_504 (by decide) ?_
      exact hret _ _ _ _ _ _ _ _ _ dL_acts_508 hS (⟨hO.up hN, hC, ho, hn, hM⟩) hP
set_option maxHeartbeats 8000000 in
set_option maxRecDepth 100000 in
theorem ac_mean {pr : Program} {l : Launch} {en : Env} {st : State} {mi : MethodId} {ar : Array Value} {bl : List Frame} {me : Method} {cd : Code} {Q : State → Prop} {G : zG} {q : Nat → Nat} {ad : Nat → Nat → Nat} {σ : Nat → Nat} {T : Nat → Nat → Nat} {o n : Nat} {f : Nat → Int32} {x : Nat → Nat} {len : Nat} {N : Nat} {A0 : Nat → Prop} {H : Heap} {locs : List Loc} {ls : Array Slot} {v k : Nat} (C0 : AC pr st mi ar cd G) (hJ : Jv N σ o n) (hN : N + 1 < 100000) (hv : v < 10000000) (hk : k < nS σ) (hP : va_P G.1 vwCl ((wL G q σ) ++ wX G ad σ T o n f x len) H) (hD : va_D A0 ((wL G q σ) ++ wX G ad σ T o n f x len)) (hS : va_S A0 st.heap H locs) (hl : lv_has ls 43 [(0, .ref (ad 0 0)), (1, .ref (q 0)), (2, .ref (q 1)), (3, .ref (q 2)), (4, .ref (q 3)), (6, .int (nI v)), (8, .int (nI k))]) (hret : AR pr l en st mi ar bl me cd Q G q ad x len A0 (N + 1)) : W pr l en (zRm 7 176) st mi ar bl me cd H locs 0 0 Q (F0 mi 574 ls []) := by
  obtain ⟨hx, hb, hml, hown, hts, hG⟩ := id C0
  obtain ⟨hO, hC, ho, hn, hM⟩ := id hJ
  have hc := hO.c
  have hs := hO.lS
  have hne := hO.lE
  have hM6 := hM.s
  have hM7 := hM.e
  have hM4 := hM.r
  have hM1 := hM.1
  have hM2 := hM.2
  have hNN := hO.N
  have hg2 := hO.2.2.1
  have hg3 := hO.2.2.2.1
  have hk6 : k < 6 := by omega
  have hbl := bN_lt hO (show k < 36 by omega)
  refine lv_iload hx hb dL_acts_574 (lv_at hl 5 rfl) ?_
  refine lv_bipush (v := nI 6) hx hb dL_acts_576 (by decide) ?_
  refine lv_idiv hx hb dL_acts_578 (nI_ne0 (by omega) (by omega)) ?_
  refine lv_topi (nm_r (e' := nI (v / 6)) (pk_div (by omega) (by omega) (by omega)) ?_)
  refine lv_bipush (v := nI 10) hx hb dL_acts_579 (by decide) ?_
  obtain ⟨c, hcv⟩ : ∃ c, c = v / 6 % 10 := ⟨_, rfl⟩
  have hc10 : c < 10 := by omega
  have hmg := hO.mg (show k < 36 by omega) hc10
  obtain ⟨sw, hsw⟩ : ∃ sw, sw = v / 60 % 4 := ⟨_, rfl⟩
  have hsw10 : sw < 10 := by omega
  refine lv_irem hx hb dL_acts_581 (nI_ne0 (by omega) (by omega)) ?_
  refine lv_topi (nm_r (e' := nI ((v / 6) % 10)) (pk_rem (by omega) (by omega) (by omega)) ?_)
  refine lv_topi (nm_r (e' := (nI c)) (by rw [hcv]) ?_)
  refine lv_istore (lv' := [(24, .int (nI c)), (0, .ref (ad 0 0)), (1, .ref (q 0)), (2, .ref (q 1)), (3, .ref (q 2)), (4, .ref (q 3)), (6, .int (nI v)), (8, .int (nI k))]) hx hb dL_acts_582 hl (by decide) rfl (fun ls hl => ?_)
  refine lv_aload hx hb dL_acts_584 (lv_at hl 5 rfl) ?_
  refine lv_iload hx hb dL_acts_586 (lv_at hl 7 rfl) ?_
  refine va_lald hx hb hG.1 hP 3 3 rfl rfl (vp_in_nI (n := k) (N := 6) (by omega) (by omega)) dL_acts_588 ?_
  refine lv_topl (nm_r (e' := (lN (bN σ k))) (by rw [nI_clamp (by omega)]; rfl) ?_)
  refine lv_lstore (lv' := [(25, .long (lN (bN σ k))), (24, .int (nI c)), (0, .ref (ad 0 0)), (1, .ref (q 0)), (2, .ref (q 1)), (3, .ref (q 2)), (4, .ref (q 3)), (6, .int (nI v)), (8, .int (nI k))]) hx hb dL_acts_589 hl (by decide) rfl (fun ls hl => ?_)
  refine lv_lload hx hb dL_acts_591 (lv_at hl 0 rfl) ?_
  refine lv_bipush (v := nI 10) hx hb dL_acts_593 (by decide) ?_
  refine lv_iload hx hb dL_acts_595 (lv_at hl 1 rfl) ?_
  refine zrdS (As := [.long (lN (bN σ k)), .int (nI 10), .int (nI c)]) ⟨hx, hb, hml, hown, hts⟩ (kL_digit l G  (bN σ k) 10 c (by omega) (by omega) (by omega) (by omega)) (va_cwS 3 hts gL_acts_L_digit rfl rfl rfl (by decide +kernel) ⟨Nat.le_of_ble_eq_true rfl, Nat.le_of_ble_eq_true rfl⟩) hG (trivial) rfl rfl hl.1 dL_acts_597 (Nat.le_of_ble_eq_true rfl) ⟨Nat.le_of_ble_eq_true rfl, Nat.le_of_ble_eq_true rfl⟩ ?_
  refine lv_topi (nm_r (e' := (nI (mng σ k c))) (congrArg nI (bN_dg hO (by omega) hc10)) ?_)
  refine lv_istore (lv' := [(27, .int (nI (mng σ k c))), (25, .long (lN (bN σ k))), (24, .int (nI c)), (0, .ref (ad 0 0)), (1, .ref (q 0)), (2, .ref (q 1)), (3, .ref (q 2)), (4, .ref (q 3)), (6, .int (nI v)), (8, .int (nI k))]) hx hb dL_acts_600 hl (by decide) rfl (fun ls hl => ?_)
  refine lv_aload hx hb dL_acts_602 (lv_at hl 7 rfl) ?_
  refine lv_iload hx hb dL_acts_604 (lv_at hl 9 rfl) ?_
  refine lv_dup2_11 hx hb dL_acts_606 rfl rfl ?_
  refine va_lald hx hb hG.1 hP 3 3 rfl rfl (vp_in_nI (n := k) (N := 6) (by omega) (by omega)) dL_acts_607 ?_
  refine lv_topl (nm_r (e' := (lN (bN σ k))) (by rw [nI_clamp (by omega)]; rfl) ?_)
  refine lv_iload hx hb dL_acts_608 (lv_at hl 8 rfl) ?_
  refine lv_bipush (v := nI 60) hx hb dL_acts_610 (by decide) ?_
  refine lv_idiv hx hb dL_acts_612 (nI_ne0 (by omega) (by omega)) ?_
  refine lv_topi (nm_r (e' := nI (v / 60)) (pk_div (by omega) (by omega) (by omega)) ?_)
  refine lv_iconst (v := nI 4) hx hb dL_acts_613 (by decide) ?_
  refine lv_irem hx hb dL_acts_614 (nI_ne0 (by omega) (by omega)) ?_
  refine lv_topi (nm_r (e' := nI ((v / 60) % 4)) (pk_rem (by omega) (by omega) (by omega)) ?_)
  refine lv_topi (nm_r (e' := (nI sw)) (by rw [hsw]) ?_)
  refine lv_iload hx hb dL_acts_615 (lv_at hl 0 rfl) ?_
  refine lv_isub hx hb dL_acts_617 ?_
  refine lv_i2l hx hb dL_acts_618 rfl ?_
  refine lv_bipush (v := nI 10) hx hb dL_acts_619 (by decide) ?_
  refine lv_iload hx hb dL_acts_621 (lv_at hl 2 rfl) ?_
  refine zrdS (As := [.int (nI 10), .int (nI c)]) ⟨hx, hb, hml, hown, hts⟩ (kL_power l G  10 c (by omega) (by omega) (by omega)) (va_cwS 2 hts gL_acts_L_power rfl rfl rfl (by decide +kernel) ⟨Nat.le_of_ble_eq_true rfl, Nat.le_of_ble_eq_true rfl⟩) hG (trivial) rfl rfl hl.1 dL_acts_623 (Nat.le_of_ble_eq_true rfl) ⟨Nat.le_of_ble_eq_true rfl, Nat.le_of_ble_eq_true rfl⟩ ?_
  refine lv_lmul hx hb dL_acts_626 ?_
  refine lv_ladd hx hb dL_acts_627 ?_
  refine lv_topl (nm_r (e' := (lN (bN (su σ (104 + 53 * k + c) sw) k))) (zl_up (by omega) (by omega) (bN_up σ hc10 sw)) ?_)
  refine va_last hx hb hG.1 hP hD hS 3 3 rfl rfl (vp_in_nI (n := k) (N := 6) (by omega) (by omega)) dL_acts_628 (fun H locs hP hD hS => ?_)
  rw [nI_clamp (show k < 2 ^ 31 by omega)] at hP hD
  have hP : va_P G.1 vwCl ((wL0 G q (gF σ) (rF σ) (aF σ) (vp_updL (bF σ) k (lN (bN (su σ (104 + 53 * k + c) sw) k)))) ++ wX G ad σ T o n f x len) H := hP
  have hD : va_D A0 ((wL0 G q (gF σ) (rF σ) (aF σ) (vp_updL (bF σ) k (lN (bN (su σ (104 + 53 * k + c) sw) k)))) ++ wX G ad σ T o n f x len) := hD
  have hP : va_P G.1 vwCl ((wL G q (su σ (104 + 53 * k + c) sw)) ++ wX G ad σ T o n f x len) H := wL_x (mn_g σ k c sw) (mn_r σ hc10 sw) (mn_a σ hc10 sw) (mn_b σ hc10 sw) hP
  have hD : va_D A0 ((wL G q (su σ (104 + 53 * k + c) sw)) ++ wX G ad σ T o n f x len) := wL_d hD
  obtain ⟨hT, hOwn⟩ : Ok N (su σ (104 + 53 * k + c) sw) ∧ Own k σ (su σ (104 + 53 * k + c) sw) := ⟨hO.su_mn (by omega) (by omega), own_mn σ hc10 sw⟩
  obtain ⟨R1, R2, R3, R4, R5, R6⟩ := rfs hO hT hN hC hM hk hOwn
  by_cases hrf : rfsd (su σ (104 + 53 * k + c) sw) k
  · skip
    refine lv_aload_n hx hb dL_acts_629 rfl (lv_at hl 3 rfl) ?_
    refine lv_iload hx hb dL_acts_630 (lv_at hl 9 rfl) ?_
    refine lv_iload hx hb dL_acts_632 (lv_at hl 2 rfl) ?_
    refine lv_iload hx hb dL_acts_634 (lv_at hl 8 rfl) ?_
    refine lv_bipush (v := nI 60) hx hb dL_acts_636 (by decide) ?_
    refine lv_idiv hx hb dL_acts_638 (nI_ne0 (by omega) (by omega)) ?_
    refine lv_topi (nm_r (e' := nI (v / 60)) (pk_div (by omega) (by omega) (by omega)) ?_)
    refine lv_iconst (v := nI 4) hx hb dL_acts_639 (by decide) ?_
    refine lv_irem hx hb dL_acts_640 (nI_ne0 (by omega) (by omega)) ?_
    refine lv_topi (nm_r (e' := nI ((v / 60) % 4)) (pk_rem (by omega) (by omega) (by omega)) ?_)
    refine lv_topi (nm_r (e' := (nI sw)) (by rw [hsw]) ?_)
    refine zwrR (G := G) (w1 := (wL G q (su σ (104 + 53 * k + c) sw))) (wc := wX G ad σ T o n f x len) (wc' := wX G ad σ (upT T ((o + n) % 5) σ) o n f x len) (va_runV (As := [.int (nI k), .int (nI c), .int (nI sw)]) (rest := []) ⟨hx, hb, hml, hown, hts⟩ (kX4_mean_no l G ad σ T o n f x len k c sw (hO) (by omega) (by omega) (by omega) (by omega) (by omega) (hrf) (zD_any (zD_r hD))) (cwV 3 hts gL_acts_X4_mean rfl rfl rfl (by decide +kernel) ⟨Nat.le_of_ble_eq_true rfl, Nat.le_of_ble_eq_true rfl⟩) (zPreV hG (va_recv (q0 := 0) (ci := 4) hG.1 (zP_r hP) rfl rfl) (zP_r hP)) rfl rfl hl.1 rfl (lv_room (Nat.le_of_ble_eq_true rfl)) dL_acts_641 ⟨Nat.le_of_ble_eq_true rfl, Nat.le_of_ble_eq_true rfl⟩) hP hD hS (wX_map ..) (fun H locs hP hD hS => ?_)
    refine lv_aload_n hx hb dL_acts_644 rfl (lv_at hl 4 rfl) ?_
    refine lv_aload_n hx hb dL_acts_645 rfl (lv_at hl 5 rfl) ?_
    refine lv_aload_n hx hb dL_acts_646 rfl (lv_at hl 6 rfl) ?_
    refine lv_aload hx hb dL_acts_647 (lv_at hl 7 rfl) ?_
    refine lv_iload hx hb dL_acts_649 (lv_at hl 9 rfl) ?_
    refine lv_iconst (v := nI 0) hx hb dL_acts_651 (by decide) ?_
    refine lv_lload hx hb dL_acts_652 (lv_at hl 1 rfl) ?_
    refine lv_iconst (v := nI 1) hx hb dL_acts_654 (by decide) ?_
    refine zwrL (G := G) (wc := (wL G q (su σ (104 + 53 * k + c) sw))) (wc' := (wL G q σ)) (w2 := wX G ad σ (upT T ((o + n) % 5) σ) o n f x len) (va_runS (As := [.ref (q 0), .ref (q 1), .ref (q 2), .ref (q 3), .int (nI k), .int (nI 0), .long (lN (bN σ k)), .int (nI 1)]) (rest := [.int (-2)]) ⟨hx, hb, hml, hown, hts⟩ (kL_keeps_nom l G q (su σ (104 + 53 * k + c) sw) σ k (bN σ k) hT R6 (by omega) (R1.mp hrf).1 (R1.mp hrf).2 (fun j hj => (mn_g σ k c sw j hj).symm) (fun j hj => (mn_r σ hc10 sw j hj).symm) (fun j hj => (mn_a σ hc10 sw j hj).symm) (mn_back σ hc10 sw) (zD_any (zD_l hD)) ) (va_cwS 8 hts gL_acts_L_keeps rfl rfl rfl (by decide +kernel) ⟨Nat.le_of_ble_eq_true rfl, Nat.le_of_ble_eq_true rfl⟩) (zPre hG (zP_l hP)) rfl rfl hl.1 rfl (lv_room (Nat.le_of_ble_eq_true rfl)) dL_acts_655 ⟨Nat.le_of_ble_eq_true rfl, Nat.le_of_ble_eq_true rfl⟩) hP hD hS rfl (fun H locs hP hD hS => ?_)
    refine lv_if_eq (tgt := 666) hx hb dL_acts_658 (by decide) (fun h658 => ?_) (fun h658 => ?_)
    · skip
      have h658 : 0 = 0 := (z_eq0 (by omega)).mp h658
      refine lv_bipush (v := (-2)) hx hb dL_acts_666 (by decide) ?_
      refine lv_icmp_ne (tgt := 675) hx hb dL_acts_668 (by decide) (fun h668 => ?_) (fun h668 => ?_)
      · skip
        exact absurd rfl h668
      · skip
        refine lv_iconst (v := nI 1) hx hb dL_acts_671 (by decide) ?_
        refine lv_goto (tgt := 676) hx hb dL_acts_672 (by decide) ?_
        exact hret _ _ _ _ _ _ _ _ _ dL_acts_676 hS (⟨hO.up hN, hC, ho, hn, hM⟩) hP
    · skip
      have h658 : ¬ (0 = 0) := fun q => h658 ((z_eq0 (by omega)).mpr q)
      have h658 : 0 < 0 := Nat.pos_of_ne_zero h658
      exfalso; omega
  · skip
    refine lv_aload_n hx hb dL_acts_629 rfl (lv_at hl 3 rfl) ?_
    refine lv_iload hx hb dL_acts_630 (lv_at hl 9 rfl) ?_
    refine lv_iload hx hb dL_acts_632 (lv_at hl 2 rfl) ?_
    refine lv_iload hx hb dL_acts_634 (lv_at hl 8 rfl) ?_
    refine lv_bipush (v := nI 60) hx hb dL_acts_636 (by decide) ?_
    refine lv_idiv hx hb dL_acts_638 (nI_ne0 (by omega) (by omega)) ?_
    refine lv_topi (nm_r (e' := nI (v / 60)) (pk_div (by omega) (by omega) (by omega)) ?_)
    refine lv_iconst (v := nI 4) hx hb dL_acts_639 (by decide) ?_
    refine lv_irem hx hb dL_acts_640 (nI_ne0 (by omega) (by omega)) ?_
    refine lv_topi (nm_r (e' := nI ((v / 60) % 4)) (pk_rem (by omega) (by omega) (by omega)) ?_)
    refine lv_topi (nm_r (e' := (nI sw)) (by rw [hsw]) ?_)
    refine zwrR (G := G) (w1 := (wL G q (su σ (104 + 53 * k + c) sw))) (wc := wX G ad σ T o n f x len) (wc' := wX G ad (endS (su σ (104 + 53 * k + c) sw) k) (upT T ((o + n) % 5) σ) (nO o n) (nN n) f x len) (va_runV (As := [.int (nI k), .int (nI c), .int (nI sw)]) (rest := []) ⟨hx, hb, hml, hown, hts⟩ (kX4_mean_ok l G ad σ T o n f x len k c sw (hO) (by omega) (by omega) (by omega) (by omega) (by omega) (hrf) (zD_any (zD_r hD))) (cwV 3 hts gL_acts_X4_mean rfl rfl rfl (by decide +kernel) ⟨Nat.le_of_ble_eq_true rfl, Nat.le_of_ble_eq_true rfl⟩) (zPreV hG (va_recv (q0 := 0) (ci := 4) hG.1 (zP_r hP) rfl rfl) (zP_r hP)) rfl rfl hl.1 rfl (lv_room (Nat.le_of_ble_eq_true rfl)) dL_acts_641 ⟨Nat.le_of_ble_eq_true rfl, Nat.le_of_ble_eq_true rfl⟩) hP hD hS (wX_map ..) (fun H locs hP hD hS => ?_)
    refine lv_aload_n hx hb dL_acts_644 rfl (lv_at hl 4 rfl) ?_
    refine lv_aload_n hx hb dL_acts_645 rfl (lv_at hl 5 rfl) ?_
    refine lv_aload_n hx hb dL_acts_646 rfl (lv_at hl 6 rfl) ?_
    refine lv_aload hx hb dL_acts_647 (lv_at hl 7 rfl) ?_
    refine lv_iload hx hb dL_acts_649 (lv_at hl 9 rfl) ?_
    refine lv_iconst (v := nI 0) hx hb dL_acts_651 (by decide) ?_
    refine lv_lload hx hb dL_acts_652 (lv_at hl 1 rfl) ?_
    refine lv_iconst (v := nI 1) hx hb dL_acts_654 (by decide) ?_
    refine zwrL (G := G) (wc := (wL G q (su σ (104 + 53 * k + c) sw))) (wc' := (wL G q (kpS (su σ (104 + 53 * k + c) sw) k))) (w2 := wX G ad (endS (su σ (104 + 53 * k + c) sw) k) (upT T ((o + n) % 5) σ) (nO o n) (nN n) f x len) (va_runS (As := [.ref (q 0), .ref (q 1), .ref (q 2), .ref (q 3), .int (nI k), .int (nI 0), .long (lN (bN σ k)), .int (nI 1)]) (rest := [.int (nI (mng σ k c))]) ⟨hx, hb, hml, hown, hts⟩ (kL_keeps_ok l G q (su σ (104 + 53 * k + c) sw) k 0 (bN σ k) 1 hT R6 (by omega) (fun z => hrf (R1.mpr z)) (zD_any (zD_l hD)) ) (va_cwS 8 hts gL_acts_L_keeps rfl rfl rfl (by decide +kernel) ⟨Nat.le_of_ble_eq_true rfl, Nat.le_of_ble_eq_true rfl⟩) (zPre hG (zP_l hP)) rfl rfl hl.1 rfl (lv_room (Nat.le_of_ble_eq_true rfl)) dL_acts_655 ⟨Nat.le_of_ble_eq_true rfl, Nat.le_of_ble_eq_true rfl⟩) hP hD hS rfl (fun H locs hP hD hS => ?_)
    rw [← R2] at hP hD
    refine lv_if_eq (tgt := 666) hx hb dL_acts_658 (by decide) (fun h658 => ?_) (fun h658 => ?_)
    · skip
      have h658 : 1 = 0 := (z_eq0 (by omega)).mp h658
      exfalso; omega
    · skip
      have h658 : ¬ (1 = 0) := fun q => h658 ((z_eq0 (by omega)).mpr q)
      have h658 : 0 < 1 := Nat.pos_of_ne_zero h658
      refine lv_iload hx hb dL_acts_661 (lv_at hl 0 rfl) ?_
      refine lv_goto (tgt := 668) hx hb dL_acts_663 (by decide) ?_
      refine lv_icmp_ne (tgt := 675) hx hb dL_acts_668 (by decide) (fun h668 => ?_) (fun h668 => ?_)
      · skip
        exact absurd rfl h668
      · skip
        refine lv_iconst (v := nI 1) hx hb dL_acts_671 (by decide) ?_
        refine lv_goto (tgt := 676) hx hb dL_acts_672 (by decide) ?_
        exact hret _ _ _ _ _ _ _ _ _ dL_acts_676 hS (⟨R4, R3, jO ho, jN hn, R5⟩) hP
