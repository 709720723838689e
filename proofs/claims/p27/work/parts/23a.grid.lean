/-- what stands all the way through a turn; how a turn ends -/
def AC (pr : Program) (st : State) (mi : MethodId) (ar : Array Value) (cd : Code) (G : zG) : Prop := pr.tables.exec = Jvm.exec ∧ cd.code = cL_acts ∧ cd.maxLocals = 43 ∧ st.vm.findClass RL = some mi.cls ∧ (∀ w ∈ wsL_acts, w.before ar st = true) ∧ zK G st
def AR (pr : Program) (l : Launch) (en : Env) (st : State) (mi : MethodId) (ar : Array Value) (bl : List Frame) (me : Method) (cd : Code) (Q : State → Prop) (G : zG) (q : Nat → Nat) (ad : Nat → Nat → Nat) (x : Nat → Nat) (len : Nat) (A0 : Nat → Prop) (N : Nat) : Prop :=
  ∀ (pc : Nat) (ls : Array Slot) (H : Heap) (locs : List Loc) (σ' : Nat → Nat) (T' : Nat → Nat → Nat) (o' n' : Nat) (f' : Nat → Int32), decode cL_acts pc = .ok (.ireturn, 1) → va_S A0 st.heap H locs → Jv N σ' o' n' → va_P G.1 vwCl (wL G q σ' ++ wX G ad σ' T' o' n' f' x len) H → W pr l en (zRm 7 176) st mi ar bl me cd H locs 0 0 Q (F0 mi pc ls [.int (nI 1)])
set_option maxHeartbeats 8000000 in
set_option maxRecDepth 100000 in
theorem ac_grid {pr : Program} {l : Launch} {en : Env} {st : State} {mi : MethodId} {ar : Array Value} {bl : List Frame} {me : Method} {cd : Code} {Q : State → Prop} {G : zG} {q : Nat → Nat} {ad : Nat → Nat → Nat} {σ : Nat → Nat} {T : Nat → Nat → Nat} {o n : Nat} {f : Nat → Int32} {x : Nat → Nat} {len : Nat} {N : Nat} {A0 : Nat → Prop} {H : Heap} {locs : List Loc} {ls : Array Slot} {v : Nat} (C0 : AC pr st mi ar cd G) (hJ : Jv N σ o n) (hN : N + 1 < 100000) (hv : v < 10000000) (hP : va_P G.1 vwCl ((wL G q σ) ++ wX G ad σ T o n f x len) H) (hD : va_D A0 ((wL G q σ) ++ wX G ad σ T o n f x len)) (hS : va_S A0 st.heap H locs) (hl : lv_has ls 43 [(0, .ref (ad 0 0)), (1, .ref (q 0)), (2, .ref (q 1)), (3, .ref (q 2)), (4, .ref (q 3)), (6, .int (nI v))]) (hret : AR pr l en st mi ar bl me cd Q G q ad x len A0 (N + 1)) : W pr l en (zRm 7 176) st mi ar bl me cd H locs 0 0 Q (F0 mi 204 ls []) := by
  obtain ⟨hx, hb, hml, hown, hts, hG⟩ := id C0
  obtain ⟨hO, hC, ho, hn, hM⟩ := id hJ
  have hc := hO.c
  have hs := hO.lS
  have hne := hO.lE
  have hM6 := hM.s
  have hM7 := hM.e
  have hM4 := hM.r
  have hM1 := hM.1
  have hM2 := hM.2
  have hNN := hO.N
  have hg2 := hO.2.2.1
  have hg3 := hO.2.2.2.1
  refine lv_iload hx hb dL_acts_204 (lv_at hl 5 rfl) ?_
  refine lv_bipush (v := nI 8) hx hb dL_acts_206 (by decide) ?_
  refine lv_irem hx hb dL_acts_208 (nI_ne0 (by omega) (by omega)) ?_
  refine lv_topi (nm_r (e' := nI (v % 8)) (pk_rem (by omega) (by omega) (by omega)) ?_)
  refine lv_if_le (tgt := 229) hx hb dL_acts_209 (by decide) (fun h209 => ?_) (fun h209 => ?_)
  · skip
    have h209 : (v % 8) = 0 := (z_le0 (by omega)).mp h209
    obtain ⟨c, hcv⟩ : ∃ c, c = 1 + v / 8 % 3 := ⟨_, rfl⟩
    obtain ⟨r, hrv⟩ : ∃ r, r = 1 + v / 24 % 2 := ⟨_, rfl⟩
    have hb1 : (c - 1) * r ≤ 2 * 2 := Nat.mul_le_mul (by omega) (by omega)
    have hb2 : c * (r - 1) ≤ 3 * 1 := Nat.mul_le_mul (by omega) (by omega)
    have hnb : nE (bgn c r (σ 2) (σ 3)) = (c - 1) * r + c * (r - 1) := rfl
    refine lv_aload_n hx hb dL_acts_229 rfl (lv_at hl 1 rfl) ?_
    refine lv_aload_n hx hb dL_acts_230 rfl (lv_at hl 2 rfl) ?_
    refine lv_aload_n hx hb dL_acts_231 rfl (lv_at hl 3 rfl) ?_
    refine lv_aload hx hb dL_acts_232 (lv_at hl 4 rfl) ?_
    refine lv_iconst (v := nI 1) hx hb dL_acts_234 (by decide) ?_
    refine lv_iload hx hb dL_acts_235 (lv_at hl 5 rfl) ?_
    refine lv_bipush (v := nI 8) hx hb dL_acts_237 (by decide) ?_
    refine lv_idiv hx hb dL_acts_239 (nI_ne0 (by omega) (by omega)) ?_
    refine lv_topi (nm_r (e' := nI (v / 8)) (pk_div (by omega) (by omega) (by omega)) ?_)
    refine lv_iconst (v := nI 3) hx hb dL_acts_240 (by decide) ?_
    refine lv_irem hx hb dL_acts_241 (nI_ne0 (by omega) (by omega)) ?_
    refine lv_topi (nm_r (e' := nI ((v / 8) % 3)) (pk_rem (by omega) (by omega) (by omega)) ?_)
    refine lv_iadd hx hb dL_acts_242 ?_
    refine lv_topi (nm_r (e' := nI (1 + ((v / 8) % 3))) (nI_add _ _) ?_)
    refine lv_topi (nm_r (e' := (nI c)) (by rw [hcv]) ?_)
    refine lv_iconst (v := nI 1) hx hb dL_acts_243 (by decide) ?_
    refine lv_iload hx hb dL_acts_244 (lv_at hl 5 rfl) ?_
    refine lv_bipush (v := nI 24) hx hb dL_acts_246 (by decide) ?_
    refine lv_idiv hx hb dL_acts_248 (nI_ne0 (by omega) (by omega)) ?_
    refine lv_topi (nm_r (e' := nI (v / 24)) (pk_div (by omega) (by omega) (by omega)) ?_)
    refine lv_iconst (v := nI 2) hx hb dL_acts_249 (by decide) ?_
    refine lv_irem hx hb dL_acts_250 (nI_ne0 (by omega) (by omega)) ?_
    refine lv_topi (nm_r (e' := nI ((v / 24) % 2)) (pk_rem (by omega) (by omega) (by omega)) ?_)
    refine lv_iadd hx hb dL_acts_251 ?_
    refine lv_topi (nm_r (e' := nI (1 + ((v / 24) % 2))) (nI_add _ _) ?_)
    refine lv_topi (nm_r (e' := (nI r)) (by rw [hrv]) ?_)
    refine zwrLv (G := G) (wc := (wL0 G q (gF σ) (rF σ) (aF σ) (bF σ))) (wc' := (wL G q (bgn c r (σ 2) (σ 3)))) (w2 := wX G ad σ T o n f x len) (va_runS (As := [.ref (q 0), .ref (q 1), .ref (q 2), .ref (q 3), .int (nI c), .int (nI r)]) (rest := []) ⟨hx, hb, hml, hown, hts⟩ (kL_begins l G q (gF σ) (rF σ) (aF σ) (bF σ) (σ 2) (σ 3) c r (if_neg (by omega)) (if_neg (by omega)) (zD_any (zD_l hD)) ) (va_cwS 6 hts gL_acts_L_begins rfl rfl rfl (by decide +kernel) ⟨Nat.le_of_ble_eq_true rfl, Nat.le_of_ble_eq_true rfl⟩) (zPre hG (zP_l hP)) rfl rfl hl.1 rfl (lv_room (Nat.le_of_ble_eq_true rfl)) dL_acts_252 ⟨Nat.le_of_ble_eq_true rfl, Nat.le_of_ble_eq_true rfl⟩) hP hD hS rfl (fun H locs hP hD hS => ?_)
    refine lv_aload_n hx hb dL_acts_255 rfl (lv_at hl 0 rfl) ?_
    refine lv_aload_n hx hb dL_acts_256 rfl (lv_at hl 1 rfl) ?_
    refine lv_iconst (v := nI 0) hx hb dL_acts_257 (by decide) ?_
    refine va_iald hx hb hG.1 hP 0 0 rfl rfl (vp_in_nI (n := 0) (N := 5) (by omega) (by omega)) dL_acts_258 ?_
    refine lv_topi (nm_r (e' := nI ((bgn c r (σ 2) (σ 3)) 0)) (by rw [nI_clamp (by omega)]; exact if_neg (by omega)) ?_)
    refine lv_topi (nm_r (e' := (nI c)) (rfl) ?_)
    refine lv_aload_n hx hb dL_acts_259 rfl (lv_at hl 1 rfl) ?_
    refine lv_iconst (v := nI 1) hx hb dL_acts_260 (by decide) ?_
    refine va_iald hx hb hG.1 hP 0 0 rfl rfl (vp_in_nI (n := 1) (N := 5) (by omega) (by omega)) dL_acts_261 ?_
    refine lv_topi (nm_r (e' := nI ((bgn c r (σ 2) (σ 3)) 1)) (by rw [nI_clamp (by omega)]; exact if_neg (by omega)) ?_)
    refine lv_topi (nm_r (e' := (nI r)) (rfl) ?_)
    refine zwrR (G := G) (w1 := (wL G q (bgn c r (σ 2) (σ 3)))) (wc := wX G ad σ T o n f x len) (wc' := wX G ad (bgn c r (σ 2) (σ 3)) (upT T ((o + n) % 5) σ) (nO o n) (nN n) f x len) (va_runV (As := [.int (nI c), .int (nI r)]) (rest := []) ⟨hx, hb, hml, hown, hts⟩ (kX4_grid_ok l G ad σ T o n f x len c r (hO) (by omega) (by omega) (by omega) (by omega) (by omega) (by omega) (zD_any (zD_r hD))) (cwV 2 hts gL_acts_X4_grid rfl rfl rfl (by decide +kernel) ⟨Nat.le_of_ble_eq_true rfl, Nat.le_of_ble_eq_true rfl⟩) (zPreV hG (va_recv (q0 := 0) (ci := 4) hG.1 (zP_r hP) rfl rfl) (zP_r hP)) rfl rfl hl.1 rfl (lv_room (Nat.le_of_ble_eq_true rfl)) dL_acts_262 ⟨Nat.le_of_ble_eq_true rfl, Nat.le_of_ble_eq_true rfl⟩) hP hD hS (wX_map ..) (fun H locs hP hD hS => ?_)
    refine lv_aload_n hx hb dL_acts_265 rfl (lv_at hl 1 rfl) ?_
    refine lv_iconst (v := nI 0) hx hb dL_acts_266 (by decide) ?_
    refine va_iald hx hb hG.1 hP 0 0 rfl rfl (vp_in_nI (n := 0) (N := 5) (by omega) (by omega)) dL_acts_267 ?_
    refine lv_topi (nm_r (e' := nI ((bgn c r (σ 2) (σ 3)) 0)) (by rw [nI_clamp (by omega)]; exact if_neg (by omega)) ?_)
    refine lv_topi (nm_r (e' := (nI c)) (rfl) ?_)
    refine lv_iconst (v := nI 1) hx hb dL_acts_268 (by decide) ?_
    refine lv_isub hx hb dL_acts_269 ?_
    refine lv_topi (nm_r (e' := nI (c - 1)) (pk_sub (by omega)) ?_)
    refine lv_aload_n hx hb dL_acts_270 rfl (lv_at hl 1 rfl) ?_
    refine lv_iconst (v := nI 1) hx hb dL_acts_271 (by decide) ?_
    refine va_iald hx hb hG.1 hP 0 0 rfl rfl (vp_in_nI (n := 1) (N := 5) (by omega) (by omega)) dL_acts_272 ?_
    refine lv_topi (nm_r (e' := nI ((bgn c r (σ 2) (σ 3)) 1)) (by rw [nI_clamp (by omega)]; exact if_neg (by omega)) ?_)
    refine lv_topi (nm_r (e' := (nI r)) (rfl) ?_)
    refine lv_imul hx hb dL_acts_273 ?_
    refine lv_topi (nm_r (e' := nI ((c - 1) * r)) (pk_mul _ _) ?_)
    refine lv_aload_n hx hb dL_acts_274 rfl (lv_at hl 1 rfl) ?_
    refine lv_iconst (v := nI 0) hx hb dL_acts_275 (by decide) ?_
    refine va_iald hx hb hG.1 hP 0 0 rfl rfl (vp_in_nI (n := 0) (N := 5) (by omega) (by omega)) dL_acts_276 ?_
    refine lv_topi (nm_r (e' := nI ((bgn c r (σ 2) (σ 3)) 0)) (by rw [nI_clamp (by omega)]; exact if_neg (by omega)) ?_)
    refine lv_topi (nm_r (e' := (nI c)) (rfl) ?_)
    refine lv_aload_n hx hb dL_acts_277 rfl (lv_at hl 1 rfl) ?_
    refine lv_iconst (v := nI 1) hx hb dL_acts_278 (by decide) ?_
    refine va_iald hx hb hG.1 hP 0 0 rfl rfl (vp_in_nI (n := 1) (N := 5) (by omega) (by omega)) dL_acts_279 ?_
    refine lv_topi (nm_r (e' := nI ((bgn c r (σ 2) (σ 3)) 1)) (by rw [nI_clamp (by omega)]; exact if_neg (by omega)) ?_)
    refine lv_topi (nm_r (e' := (nI r)) (rfl) ?_)
    refine lv_iconst (v := nI 1) hx hb dL_acts_280 (by decide) ?_
    refine lv_isub hx hb dL_acts_281 ?_
    refine lv_topi (nm_r (e' := nI (r - 1)) (pk_sub (by omega)) ?_)
    refine lv_imul hx hb dL_acts_282 ?_
    refine lv_topi (nm_r (e' := nI (c * (r - 1))) (pk_mul _ _) ?_)
    refine lv_iadd hx hb dL_acts_283 ?_
    refine lv_topi (nm_r (e' := nI (((c - 1) * r) + (c * (r - 1)))) (nI_add _ _) ?_)
    refine lv_icmp_ne (tgt := 291) hx hb dL_acts_284 (by decide) (fun h284 => ?_) (fun h284 => ?_)
    · skip
      exact absurd (congrArg nI (hnb)) h284
    · skip
      refine lv_iconst (v := nI 1) hx hb dL_acts_287 (by decide) ?_
      refine lv_goto (tgt := 292) hx hb dL_acts_288 (by decide) ?_
      exact hret _ _ _ _ _ _ _ _ _ dL_acts_292 hS (⟨(hO.bg ⟨by omega, by omega⟩ ⟨by omega, by omega⟩).up hN, cln_bgn (hO.bg ⟨by omega, by omega⟩ ⟨by omega, by omega⟩), jO ho, jN hn, ⟨(show c ≤ 3 by omega), (show r ≤ 2 by omega)⟩⟩) hP
  · skip
    have h209 : ¬ ((v % 8) = 0) := fun q => h209 ((z_le0 (by omega)).mpr q)
    have h209 : 0 < (v % 8) := Nat.pos_of_ne_zero h209
    refine lv_aload_n hx hb dL_acts_212 rfl (lv_at hl 0 rfl) ?_
    refine lv_iconst (v := nI 3) hx hb dL_acts_213 (by decide) ?_
    refine lv_bipush (v := nI 7) hx hb dL_acts_214 (by decide) ?_
    refine zwrR (G := G) (w1 := (wL G q σ)) (wc := wX G ad σ T o n f x len) (wc' := wX G ad σ T o n f x len) (va_runV (As := [.int (nI 3), .int (nI 7)]) (rest := []) ⟨hx, hb, hml, hown, hts⟩ (kX4_grid_inv l G ad σ T o n f x len (nI 3) (nI 7) (hO) (by omega) (by omega) (fun z => absurd z.2.2 (by decide +kernel)) (zD_any (zD_r hD))) (cwV 2 hts gL_acts_X4_grid rfl rfl rfl (by decide +kernel) ⟨Nat.le_of_ble_eq_true rfl, Nat.le_of_ble_eq_true rfl⟩) (zPreV hG (va_recv (q0 := 0) (ci := 4) hG.1 (zP_r hP) rfl rfl) (zP_r hP)) rfl rfl hl.1 rfl (lv_room (Nat.le_of_ble_eq_true rfl)) dL_acts_216 ⟨Nat.le_of_ble_eq_true rfl, Nat.le_of_ble_eq_true rfl⟩) hP hD hS (wX_map ..) (fun H locs hP hD hS => ?_)
    refine lv_iconst (v := (-1)) hx hb dL_acts_219 (by decide) ?_
    refine lv_icmp_ne (tgt := 227) hx hb dL_acts_220 (by decide) (fun h220 => ?_) (fun h220 => ?_)
    · skip
      exact absurd rfl h220
    · skip
      refine lv_iconst (v := nI 1) hx hb dL_acts_223 (by decide) ?_
      refine lv_goto (tgt := 228) hx hb dL_acts_224 (by decide) ?_
      exact hret _ _ _ _ _ _ _ _ _ dL_acts_228 hS (⟨hO.up hN, hC, ho, hn, hM⟩) hP
set_option maxHeartbeats 8000000 in
set_option maxRecDepth 100000 in
theorem ac_set {pr : Program} {l : Launch} {en : Env} {st : State} {mi : MethodId} {ar : Array Value} {bl : List Frame} {me : Method} {cd : Code} {Q : State → Prop} {G : zG} {q : Nat → Nat} {ad : Nat → Nat → Nat} {σ : Nat → Nat} {T : Nat → Nat → Nat} {o n : Nat} {f : Nat → Int32} {x : Nat → Nat} {len : Nat} {N : Nat} {A0 : Nat → Prop} {H : Heap} {locs : List Loc} {ls : Array Slot} {v : Nat} (C0 : AC pr st mi ar cd G) (hJ : Jv N σ o n) (hN : N + 1 < 100000) (hv : v < 10000000) (hP : va_P G.1 vwCl ((wL G q σ) ++ wX G ad σ T o n f x len) H) (hD : va_D A0 ((wL G q σ) ++ wX G ad σ T o n f x len)) (hS : va_S A0 st.heap H locs) (hl : lv_has ls 43 [(0, .ref (ad 0 0)), (1, .ref (q 0)), (2, .ref (q 1)), (3, .ref (q 2)), (4, .ref (q 3)), (6, .int (nI v))]) (hret : AR pr l en st mi ar bl me cd Q G q ad x len A0 (N + 1)) : W pr l en (zRm 7 176) st mi ar bl me cd H locs 0 0 Q (F0 mi 293 ls []) := by
  obtain ⟨hx, hb, hml, hown, hts, hG⟩ := id C0
  obtain ⟨hO, hC, ho, hn, hM⟩ := id hJ
  have hc := hO.c
  have hs := hO.lS
  have hne := hO.lE
  have hM6 := hM.s
  have hM7 := hM.e
  have hM4 := hM.r
  have hM1 := hM.1
  have hM2 := hM.2
  have hNN := hO.N
  have hg2 := hO.2.2.1
  have hg3 := hO.2.2.2.1
  refine lv_iload hx hb dL_acts_293 (lv_at hl 5 rfl) ?_
  refine lv_iconst (v := nI 2) hx hb dL_acts_295 (by decide) ?_
  refine lv_irem hx hb dL_acts_296 (nI_ne0 (by omega) (by omega)) ?_
  refine lv_topi (nm_r (e' := nI (v % 2)) (pk_rem (by omega) (by omega) (by omega)) ?_)
  rcases (show v % 2 = 0 ∨ v % 2 = 1 by omega) with hw | hw
  · refine lv_topi (nm_r (e' := nI 0) (by rw [hw]) ?_)
    refine lv_istore (lv' := [(15, .int (nI 0)), (0, .ref (ad 0 0)), (1, .ref (q 0)), (2, .ref (q 1)), (3, .ref (q 2)), (4, .ref (q 3)), (6, .int (nI v))]) hx hb dL_acts_297 hl (by decide) rfl (fun ls hl => ?_)
    refine lv_aload_n hx hb dL_acts_299 rfl (lv_at hl 2 rfl) ?_
    refine lv_iconst (v := nI 2) hx hb dL_acts_300 (by decide) ?_
    refine lv_iload hx hb dL_acts_301 (lv_at hl 0 rfl) ?_
    refine lv_iadd hx hb dL_acts_303 ?_
    refine lv_topi (nm_r (e' := nI (2 + 0)) (nI_add _ _) ?_)
    refine va_iald hx hb hG.1 hP 0 0 rfl rfl (vp_in_nI (n := 2 + 0) (N := 5) (by omega) (by omega)) dL_acts_304 ?_
    refine lv_topi (nm_r (e' := nI (σ 2)) (by rw [nI_clamp (by omega)]; exact if_neg (by omega)) ?_)
    refine lv_istore (lv' := [(16, .int (nI (σ 2))), (15, .int (nI 0)), (0, .ref (ad 0 0)), (1, .ref (q 0)), (2, .ref (q 1)), (3, .ref (q 2)), (4, .ref (q 3)), (6, .int (nI v))]) hx hb dL_acts_305 hl (by decide) rfl (fun ls hl => ?_)
    refine lv_aload_n hx hb dL_acts_307 rfl (lv_at hl 3 rfl) ?_
    refine lv_iconst (v := nI 2) hx hb dL_acts_308 (by decide) ?_
    refine lv_iload hx hb dL_acts_309 (lv_at hl 1 rfl) ?_
    refine lv_iadd hx hb dL_acts_311 ?_
    refine lv_topi (nm_r (e' := nI (2 + 0)) (nI_add _ _) ?_)
    refine lv_iload hx hb dL_acts_312 (lv_at hl 1 rfl) ?_
    refine lv_if_ne (tgt := 326) hx hb dL_acts_314 (by decide) (fun h314 => ?_) (fun h314 => ?_)
    · skip
      have h314 : ¬ (0 = 0) := fun q => h314 ((z_eq0 (by omega)).mpr q)
      have h314 : 0 < 0 := Nat.pos_of_ne_zero h314
      exfalso; omega
    · skip
      have h314 : 0 = 0 := (z_eq0 (by omega)).mp h314
      refine lv_iload hx hb dL_acts_317 (lv_at hl 7 rfl) ?_
      refine lv_iconst (v := nI 2) hx hb dL_acts_319 (by decide) ?_
      refine lv_idiv hx hb dL_acts_320 (nI_ne0 (by omega) (by omega)) ?_
      refine lv_topi (nm_r (e' := nI (v / 2)) (pk_div (by omega) (by omega) (by omega)) ?_)
      refine lv_iconst (v := nI 2) hx hb dL_acts_321 (by decide) ?_
      refine lv_irem hx hb dL_acts_322 (nI_ne0 (by omega) (by omega)) ?_
      refine lv_topi (nm_r (e' := nI ((v / 2) % 2)) (pk_rem (by omega) (by omega) (by omega)) ?_)
      refine lv_goto (tgt := 334) hx hb dL_acts_323 (by decide) ?_
      refine va_iast hx hb hG.1 hP hD hS 0 0 rfl rfl (vp_in_nI (n := 2 + 0) (N := 5) (by omega) (by omega)) dL_acts_334 (fun H locs hP hD hS => ?_)
      rw [nI_clamp (show 2 + 0 < 2 ^ 31 by omega)] at hP hD
      have hP : va_P G.1 vwCl ((wL0 G q (upd (gF σ) (2 + 0) (nI ((v / 2) % 2))) (rF σ) (aF σ) (bF σ)) ++ wX G ad σ T o n f x len) H := hP
      have hD : va_D A0 ((wL0 G q (upd (gF σ) (2 + 0) (nI ((v / 2) % 2))) (rF σ) (aF σ) (bF σ)) ++ wX G ad σ T o n f x len) := hD
      have hP : va_P G.1 vwCl ((wL G q (su σ 2 (v / 2 % 2))) ++ wX G ad σ T o n f x len) H := wL_x (gF_23 σ (Or.inl rfl) _) (lo_r σ (by omega) _) (lo_a σ (by omega) _) (lo_b σ (by omega) _) hP
      have hD : va_D A0 ((wL G q (su σ 2 (v / 2 % 2))) ++ wX G ad σ T o n f x len) := wL_d hD
      refine lv_aload_n hx hb dL_acts_335 rfl (lv_at hl 2 rfl) ?_
      refine lv_iload hx hb dL_acts_336 (lv_at hl 1 rfl) ?_
      refine lv_aload_n hx hb dL_acts_338 rfl (lv_at hl 3 rfl) ?_
      refine lv_iconst (v := nI 2) hx hb dL_acts_339 (by decide) ?_
      refine lv_iload hx hb dL_acts_340 (lv_at hl 1 rfl) ?_
      refine lv_iadd hx hb dL_acts_342 ?_
      refine lv_topi (nm_r (e' := nI (2 + 0)) (nI_add _ _) ?_)
      refine va_iald hx hb hG.1 hP 0 0 rfl rfl (vp_in_nI (n := 2 + 0) (N := 5) (by omega) (by omega)) dL_acts_343 ?_
      refine lv_topi (nm_r (e' := nI ((su σ 2 (v / 2 % 2)) 2)) (by rw [nI_clamp (by omega)]; exact if_neg (by omega)) ?_)
      refine lv_topi (nm_r (e' := (nI (v / 2 % 2))) (congrArg nI (su_at _ _ _)) ?_)
      refine zwrR (G := G) (w1 := (wL G q (su σ 2 (v / 2 % 2)))) (wc := wX G ad σ T o n f x len) (wc' := wX G ad (su σ 2 (v / 2 % 2)) (upT T ((o + n) % 5) σ) (nO o n) (nN n) f x len) (va_runV (As := [.int (nI 0), .int (nI (v / 2 % 2))]) (rest := []) ⟨hx, hb, hml, hown, hts⟩ (kX4_set_guard l G ad σ T o n f x len (v / 2 % 2) (hO) (by omega) (by omega) (by omega) (zD_any (zD_r hD))) (cwV 2 hts gL_acts_X4_set rfl rfl rfl (by decide +kernel) ⟨Nat.le_of_ble_eq_true rfl, Nat.le_of_ble_eq_true rfl⟩) (zPreV hG (va_recv (q0 := 0) (ci := 4) hG.1 (zP_r hP) rfl rfl) (zP_r hP)) rfl rfl hl.1 rfl (lv_room (Nat.le_of_ble_eq_true rfl)) dL_acts_344 ⟨Nat.le_of_ble_eq_true rfl, Nat.le_of_ble_eq_true rfl⟩) hP hD hS (wX_map ..) (fun H locs hP hD hS => ?_)
      refine lv_iload hx hb dL_acts_347 (lv_at hl 0 rfl) ?_
      refine lv_icmp_ne (tgt := 356) hx hb dL_acts_349 (by decide) (fun h349 => ?_) (fun h349 => ?_)
      · skip
        exact absurd rfl h349
      · skip
        refine lv_iconst (v := nI 1) hx hb dL_acts_352 (by decide) ?_
        refine lv_goto (tgt := 357) hx hb dL_acts_353 (by decide) ?_
        exact hret _ _ _ _ _ _ _ _ _ dL_acts_357 hS (⟨(hO.su_gd (by omega)).up hN, cln_su hO hC (by omega) (fun k y hy => by omega) (fun e he => by omega), jO ho, jN hn, hM.su (by omega)⟩) hP
  · refine lv_topi (nm_r (e' := nI 1) (by rw [hw]) ?_)
    refine lv_istore (lv' := [(15, .int (nI 1)), (0, .ref (ad 0 0)), (1, .ref (q 0)), (2, .ref (q 1)), (3, .ref (q 2)), (4, .ref (q 3)), (6, .int (nI v))]) hx hb dL_acts_297 hl (by decide) rfl (fun ls hl => ?_)
    refine lv_aload_n hx hb dL_acts_299 rfl (lv_at hl 2 rfl) ?_
    refine lv_iconst (v := nI 2) hx hb dL_acts_300 (by decide) ?_
    refine lv_iload hx hb dL_acts_301 (lv_at hl 0 rfl) ?_
    refine lv_iadd hx hb dL_acts_303 ?_
    refine lv_topi (nm_r (e' := nI (2 + 1)) (nI_add _ _) ?_)
    refine va_iald hx hb hG.1 hP 0 0 rfl rfl (vp_in_nI (n := 2 + 1) (N := 5) (by omega) (by omega)) dL_acts_304 ?_
    refine lv_topi (nm_r (e' := nI (σ 3)) (by rw [nI_clamp (by omega)]; exact if_neg (by omega)) ?_)
    refine lv_istore (lv' := [(16, .int (nI (σ 3))), (15, .int (nI 1)), (0, .ref (ad 0 0)), (1, .ref (q 0)), (2, .ref (q 1)), (3, .ref (q 2)), (4, .ref (q 3)), (6, .int (nI v))]) hx hb dL_acts_305 hl (by decide) rfl (fun ls hl => ?_)
    refine lv_aload_n hx hb dL_acts_307 rfl (lv_at hl 3 rfl) ?_
    refine lv_iconst (v := nI 2) hx hb dL_acts_308 (by decide) ?_
    refine lv_iload hx hb dL_acts_309 (lv_at hl 1 rfl) ?_
    refine lv_iadd hx hb dL_acts_311 ?_
    refine lv_topi (nm_r (e' := nI (2 + 1)) (nI_add _ _) ?_)
    refine lv_iload hx hb dL_acts_312 (lv_at hl 1 rfl) ?_
    refine lv_if_ne (tgt := 326) hx hb dL_acts_314 (by decide) (fun h314 => ?_) (fun h314 => ?_)
    · skip
      have h314 : ¬ (1 = 0) := fun q => h314 ((z_eq0 (by omega)).mpr q)
      have h314 : 0 < 1 := Nat.pos_of_ne_zero h314
      refine lv_iload hx hb dL_acts_326 (lv_at hl 7 rfl) ?_
      refine lv_iconst (v := nI 2) hx hb dL_acts_328 (by decide) ?_
      refine lv_idiv hx hb dL_acts_329 (nI_ne0 (by omega) (by omega)) ?_
      refine lv_topi (nm_r (e' := nI (v / 2)) (pk_div (by omega) (by omega) (by omega)) ?_)
      refine lv_sipush (v := nI 1001) hx hb dL_acts_330 (by decide) ?_
      refine lv_irem hx hb dL_acts_333 (nI_ne0 (by omega) (by omega)) ?_
      refine lv_topi (nm_r (e' := nI ((v / 2) % 1001)) (pk_rem (by omega) (by omega) (by omega)) ?_)
      refine va_iast hx hb hG.1 hP hD hS 0 0 rfl rfl (vp_in_nI (n := 2 + 1) (N := 5) (by omega) (by omega)) dL_acts_334 (fun H locs hP hD hS => ?_)
      rw [nI_clamp (show 2 + 1 < 2 ^ 31 by omega)] at hP hD
      have hP : va_P G.1 vwCl ((wL0 G q (upd (gF σ) (2 + 1) (nI ((v / 2) % 1001))) (rF σ) (aF σ) (bF σ)) ++ wX G ad σ T o n f x len) H := hP
      have hD : va_D A0 ((wL0 G q (upd (gF σ) (2 + 1) (nI ((v / 2) % 1001))) (rF σ) (aF σ) (bF σ)) ++ wX G ad σ T o n f x len) := hD
      have hP : va_P G.1 vwCl ((wL G q (su σ 3 (v / 2 % 1001))) ++ wX G ad σ T o n f x len) H := wL_x (gF_23 σ (Or.inr rfl) _) (lo_r σ (by omega) _) (lo_a σ (by omega) _) (lo_b σ (by omega) _) hP
      have hD : va_D A0 ((wL G q (su σ 3 (v / 2 % 1001))) ++ wX G ad σ T o n f x len) := wL_d hD
      refine lv_aload_n hx hb dL_acts_335 rfl (lv_at hl 2 rfl) ?_
      refine lv_iload hx hb dL_acts_336 (lv_at hl 1 rfl) ?_
      refine lv_aload_n hx hb dL_acts_338 rfl (lv_at hl 3 rfl) ?_
      refine lv_iconst (v := nI 2) hx hb dL_acts_339 (by decide) ?_
      refine lv_iload hx hb dL_acts_340 (lv_at hl 1 rfl) ?_
      refine lv_iadd hx hb dL_acts_342 ?_
      refine lv_topi (nm_r (e' := nI (2 + 1)) (nI_add _ _) ?_)
      refine va_iald hx hb hG.1 hP 0 0 rfl rfl (vp_in_nI (n := 2 + 1) (N := 5) (by omega) (by omega)) dL_acts_343 ?_
      refine lv_topi (nm_r (e' := nI ((su σ 3 (v / 2 % 1001)) 3)) (by rw [nI_clamp (by omega)]; exact if_neg (by omega)) ?_)
      refine lv_topi (nm_r (e' := (nI (v / 2 % 1001))) (congrArg nI (su_at _ _ _)) ?_)
      refine zwrR (G := G) (w1 := (wL G q (su σ 3 (v / 2 % 1001)))) (wc := wX G ad σ T o n f x len) (wc' := wX G ad (su σ 3 (v / 2 % 1001)) (upT T ((o + n) % 5) σ) (nO o n) (nN n) f x len) (va_runV (As := [.int (nI 1), .int (nI (v / 2 % 1001))]) (rest := []) ⟨hx, hb, hml, hown, hts⟩ (kX4_set_tol l G ad σ T o n f x len (v / 2 % 1001) (hO) (by omega) (by omega) (by omega) (zD_any (zD_r hD))) (cwV 2 hts gL_acts_X4_set rfl rfl rfl (by decide +kernel) ⟨Nat.le_of_ble_eq_true rfl, Nat.le_of_ble_eq_true rfl⟩) (zPreV hG (va_recv (q0 := 0) (ci := 4) hG.1 (zP_r hP) rfl rfl) (zP_r hP)) rfl rfl hl.1 rfl (lv_room (Nat.le_of_ble_eq_true rfl)) dL_acts_344 ⟨Nat.le_of_ble_eq_true rfl, Nat.le_of_ble_eq_true rfl⟩) hP hD hS (wX_map ..) (fun H locs hP hD hS => ?_)
      refine lv_iload hx hb dL_acts_347 (lv_at hl 0 rfl) ?_
      refine lv_icmp_ne (tgt := 356) hx hb dL_acts_349 (by decide) (fun h349 => ?_) (fun h349 => ?_)
      · skip
        exact absurd rfl h349
      · skip
        refine lv_iconst (v := nI 1) hx hb dL_acts_352 (by decide) ?_
        refine lv_goto (tgt := 357) hx hb dL_acts_353 (by decide) ?_
        exact hret _ _ _ _ _ _ _ _ _ dL_acts_357 hS (⟨(hO.su_tl (by omega)).up hN, cln_su hO hC (by omega) (fun k y hy => by omega) (fun e he => by omega), jO ho, jN hn, hM.su (by omega)⟩) hP
    · skip
      have h314 : 1 = 0 := (z_eq0 (by omega)).mp h314
      exfalso; omega
