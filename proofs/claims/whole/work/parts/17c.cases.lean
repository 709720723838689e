/-! the law's own roads -/
theorem zwrL {p : Program} {l : Launch} {e : Env} {R : Room} {s : State} {m : MethodId} {args : Array Value} {below : List Frame} {meth : Method} {c : Code} {H : Heap} {locs : List Loc} {cells slots : Nat} {Q : State → Prop} {pc : Nat} {ls : Array Slot} {rest st0 : List Value} {G : zG} {A0 : Nat → Prop} {H0 : Heap} {a : Array Value} {v : Value} {wc wc' w2 : va_W} (hr : va_Run p l e R s m args below meth c H locs cells slots 0 0 (F0 m pc ls st0) rest (zQ (zA wc) (some v) (va_P G.1 vwCl wc') a) (zA wc)) (hP : va_P G.1 vwCl (wc ++ w2) H) (hD : va_D A0 (wc ++ w2)) (hS : va_S A0 H0 H locs) (he : wc'.map (·.1) = wc.map (·.1))
    (kk : ∀ (H1 : Heap) (locs1 : List Loc), va_P G.1 vwCl (wc' ++ w2) H1 → va_D A0 (wc' ++ w2) → va_S A0 H0 H1 locs1 → W p l e R s m args below meth c H1 locs1 cells slots Q (F0 m (pc + 3) ls (v :: rest))) : W p l e R s m args below meth c H locs cells slots Q (F0 m pc ls st0) :=
  zwrM (w1 := []) hr hP hD hS he kk
theorem zwrR {p : Program} {l : Launch} {e : Env} {R : Room} {s : State} {m : MethodId} {args : Array Value} {below : List Frame} {meth : Method} {c : Code} {H : Heap} {locs : List Loc} {cells slots : Nat} {Q : State → Prop} {pc : Nat} {ls : Array Slot} {rest st0 : List Value} {G : zG} {A0 : Nat → Prop} {H0 : Heap} {a : Array Value} {v : Value} {wc wc' w1 : va_W} (hr : va_Run p l e R s m args below meth c H locs cells slots 0 0 (F0 m pc ls st0) rest (zQ (zA wc) (some v) (va_P G.1 vwCl wc') a) (zA wc)) (hP : va_P G.1 vwCl (w1 ++ wc) H) (hD : va_D A0 (w1 ++ wc)) (hS : va_S A0 H0 H locs) (he : wc'.map (·.1) = wc.map (·.1))
    (kk : ∀ (H1 : Heap) (locs1 : List Loc), va_P G.1 vwCl (w1 ++ wc') H1 → va_D A0 (w1 ++ wc') → va_S A0 H0 H1 locs1 → W p l e R s m args below meth c H1 locs1 cells slots Q (F0 m (pc + 3) ls (v :: rest))) : W p l e R s m args below meth c H locs cells slots Q (F0 m pc ls st0) := by
  have e1 : w1 ++ (wc ++ []) = w1 ++ wc := by rw [List.append_nil]
  have e2 : w1 ++ (wc' ++ []) = w1 ++ wc' := by rw [List.append_nil]
  refine zwrM (w1 := w1) (w2 := []) hr (by rw [e1]; exact hP) (by rw [e1]; exact hD) hS he fun H1 locs1 h1 h2 h3 => ?_
  rw [e2] at h1 h2
  exact kk H1 locs1 h1 h2 h3
abbrev lA (s : State) : Nat → Prop := fun q => s.heap.size ≤ q
abbrev lL (b i q4 q5 : Nat) : List (Nat × Value) := [(3, .int (nI i)), (1, .ref q4), (2, .ref q5), (0, .ref b)]
/-- what stands all the way through the law -/
def LC (p : Program) (s : State) (mi : MethodId) (c : Code) (b L : Nat) (xs : Nat → Int32) : Prop :=
  p.tables.exec = Jvm.exec ∧ c.code = code ∧ c.maxLocals = 4 ∧ s.vm.findClass RL = some mi.cls ∧ (∀ w ∈ wsL_law, w.before #[Value.ref b] s = true) ∧ va_X b L xs s s.heap ∧ b < s.heap.size ∧ L ≤ 2560
theorem law_ld {p : Program} {l : Launch} {e : Env} {s : State} {mi : MethodId} {below : List Frame} {meth : Method} {c : Code} {H : Heap} {locs : List Loc} {Q : State → Prop} {b L : Nat} {xs : Nat → Int32} {pc : Nat} {ls : Array Slot} {rest : List Value} {i q4 q5 : Nat} (j : Nat) {jj : Int}
    (C0 : LC p s mi c b L xs) (hS : va_S (lA s) s.heap H locs) (hl : lv_has ls 4 (lL b i q4 q5)) (hij : i + j < L) (d0 : decode code pc = .ok (.aload_n 0, 1)) (d1 : decode code (pc + 1) = .ok (.iload_n 3, 1)) (d2 : decode code (pc + 1 + 1) = .ok (.iconst jj, 1)) (d3 : decode code (pc + 1 + 1 + 1) = .ok (.iadd, 1)) (d4 : decode code (pc + 1 + 1 + 1 + 1) = .ok (.iaload, 1)) (hj : Int32.ofInt jj = nI j)
    (kk : W p l e room_1 s mi #[Value.ref b] below meth c H locs 600000 7302250 Q (F0 mi (pc + 1 + 1 + 1 + 1 + 1) ls (.int (xs (i + j)) :: rest))) : W p l e room_1 s mi #[Value.ref b] below meth c H locs 600000 7302250 Q (F0 mi pc ls rest) := by
  obtain ⟨hx, hb, hml, hown, hts, hX, hbl, hL⟩ := C0
  refine lv_aload_n hx hb d0 rfl (lv_at hl 3 rfl) ?_
  refine lv_iload_n hx hb d1 rfl (lv_at hl 0 rfl) ?_
  refine lv_iconst (v := nI j) hx hb d2 hj ?_
  refine lv_iadd hx hb d3 ?_
  rw [nI_add]
  refine va_sld hx hb hX hbl (Nat.not_le.mpr hbl) hS (nI_in (c := i + j) (N := L) hij (by omega)) d4 ?_
  rw [nI_clamp (show i + j < 2 ^ 31 by omega)]
  exact kk
/-- where a case of the law goes on: the states of both programs, agreeing -/
def LK (p : Program) (l : Launch) (e : Env) (s : State) (mi : MethodId) (below : List Frame) (meth : Method) (c : Code) (Q : State → Prop) (G : zG) (ad : Nat → Nat → Nat) (m : Nat → Nat) (b N i : Nat) : Prop :=
  ∀ (σ : Nat → Nat) (T : Nat → Nat → Nat) (o n : Nat) (f : Nat → Int32) (x : Nat → Nat) (len : Nat) (V : Nat → Nat → Nat) (ζ : Nat → Nat) (B : Nat → Int32) (H : Heap) (locs : List Loc) (ls : Array Slot), Iv N σ T o n V x len → va_P G.1 vwCl (wX G ad σ T o n f x len ++ wM G m σ V ζ n x len B) H → va_D (lA s) (wX G ad σ T o n f x len ++ wM G m σ V ζ n x len B) → va_S (lA s) s.heap H locs → lv_has ls 4 (lL b i (ad 0 0) (m 0)) →
    W p l e room_1 s mi #[Value.ref b] below meth c H locs 600000 7302250 Q (F0 mi 866 ls [])
set_option maxHeartbeats 4000000 in
set_option maxRecDepth 20000 in
theorem lc_grid {p : Program} {l : Launch} {e : Env} {s : State} {mi : MethodId} {below : List Frame} {meth : Method} {c : Code} {Q : State → Prop} {b L : Nat} {xs : Nat → Int32} {G : zG} {ad : Nat → Nat → Nat} {m : Nat → Nat} {N i : Nat} {σ : Nat → Nat} {T : Nat → Nat → Nat} {o n : Nat} {f : Nat → Int32} {x : Nat → Nat} {len : Nat} {V : Nat → Nat → Nat} {ζ : Nat → Nat} {B : Nat → Int32} {H : Heap} {locs : List Loc} {ls : Array Slot} (C0 : LC p s mi c b L xs) (hG : zK G s) (hI : Iv N σ T o n V x len) (hN : N + 1 < 100000) (hi : i + 5 ≤ L) (hP : va_P G.1 vwCl (wX G ad σ T o n f x len ++ wM G m σ V ζ n x len B) H) (hD : va_D (lA s) (wX G ad σ T o n f x len ++ wM G m σ V ζ n x len B)) (hS : va_S (lA s) s.heap H locs) (hl : lv_has ls 4 (lL b i (ad 0 0) (m 0))) (kk : LK p l e s mi below meth c Q G ad m b (N + 1) i) : W p l e room_1 s mi #[Value.ref b] below meth c H locs 600000 7302250 Q (F0 mi 144 ls []) := by
  obtain ⟨hx, hb, hml, hown, hts, hX, hbl, hL⟩ := id C0
  obtain ⟨v, σ', T', o', n', f', x', len', V', ζ', B', hI', M4, M5⟩ := pr_grid l G ad m f ζ B hI hN (zD_any (zD_l hD)) (zD_any (zD_r hD)) (xs (i + 1)) (xs (i + 2))
  refine lv_aload_n hx hb dL_law_144 rfl (lv_at hl 1 rfl) ?_
  refine law_ld 1 C0 hS hl (by omega) dL_law_145 dL_law_146 dL_law_147 dL_law_148 dL_law_149 (by decide +kernel) ?_
  refine law_ld 2 C0 hS hl (by omega) dL_law_150 dL_law_151 dL_law_152 dL_law_153 dL_law_154 (by decide +kernel) ?_
  refine zwrL (G := G) (va_runV (As := [.int (xs (i + 1)), .int (xs (i + 2))]) (rest := []) ⟨hx, hb, hml, hown, hts⟩ M4 (cwV 2 hts gL_law_X4_grid rfl rfl rfl (by decide +kernel) ⟨Nat.le_of_ble_eq_true rfl, Nat.le_of_ble_eq_true rfl⟩) (zPreV hG (va_recv (q0 := 0) (ci := 4) hG.1 (zP_l hP) rfl rfl) (zP_l hP)) rfl rfl hl.1 rfl (lv_room (Nat.le_of_ble_eq_true rfl)) dL_law_155 ⟨Nat.le_of_ble_eq_true rfl, Nat.le_of_ble_eq_true rfl⟩) hP hD hS (wX_map ..) (fun H locs hP hD hS => ?_)
  refine lv_aload_n hx hb dL_law_158 rfl (lv_at hl 2 rfl) ?_
  refine law_ld 1 C0 hS hl (by omega) dL_law_159 dL_law_160 dL_law_161 dL_law_162 dL_law_163 (by decide +kernel) ?_
  refine law_ld 2 C0 hS hl (by omega) dL_law_164 dL_law_165 dL_law_166 dL_law_167 dL_law_168 (by decide +kernel) ?_
  refine zwrR (G := G) (va_runV (As := [.int (xs (i + 1)), .int (xs (i + 2))]) (rest := [.int v]) ⟨hx, hb, hml, hown, hts⟩ M5 (cwV 2 hts gL_law_X5_grid rfl rfl rfl (by decide +kernel) ⟨Nat.le_of_ble_eq_true rfl, Nat.le_of_ble_eq_true rfl⟩) (zPreV hG (va_recv (q0 := 0) (ci := 5) hG.1 (zP_r hP) rfl rfl) (zP_r hP)) rfl rfl hl.1 rfl (lv_room (Nat.le_of_ble_eq_true rfl)) dL_law_169 ⟨Nat.le_of_ble_eq_true rfl, Nat.le_of_ble_eq_true rfl⟩) hP hD hS (wM_map ..) (fun H locs hP hD hS => ?_)
  refine lv_icmp_eq (tgt := 866) hx hb dL_law_172 (by decide) (fun _ => ?_) (fun h => absurd rfl h)
  exact kk _ _ _ _ _ _ _ _ _ _ _ _ _ hI' hP hD hS hl
set_option maxHeartbeats 4000000 in
set_option maxRecDepth 20000 in
theorem lc_set {p : Program} {l : Launch} {e : Env} {s : State} {mi : MethodId} {below : List Frame} {meth : Method} {c : Code} {Q : State → Prop} {b L : Nat} {xs : Nat → Int32} {G : zG} {ad : Nat → Nat → Nat} {m : Nat → Nat} {N i : Nat} {σ : Nat → Nat} {T : Nat → Nat → Nat} {o n : Nat} {f : Nat → Int32} {x : Nat → Nat} {len : Nat} {V : Nat → Nat → Nat} {ζ : Nat → Nat} {B : Nat → Int32} {H : Heap} {locs : List Loc} {ls : Array Slot} (C0 : LC p s mi c b L xs) (hG : zK G s) (hI : Iv N σ T o n V x len) (hN : N + 1 < 100000) (hi : i + 5 ≤ L) (hP : va_P G.1 vwCl (wX G ad σ T o n f x len ++ wM G m σ V ζ n x len B) H) (hD : va_D (lA s) (wX G ad σ T o n f x len ++ wM G m σ V ζ n x len B)) (hS : va_S (lA s) s.heap H locs) (hl : lv_has ls 4 (lL b i (ad 0 0) (m 0))) (kk : LK p l e s mi below meth c Q G ad m b (N + 1) i) : W p l e room_1 s mi #[Value.ref b] below meth c H locs 600000 7302250 Q (F0 mi 177 ls []) := by
  obtain ⟨hx, hb, hml, hown, hts, hX, hbl, hL⟩ := id C0
  obtain ⟨v, σ', T', o', n', f', x', len', V', ζ', B', hI', M4, M5⟩ := pr_set l G ad m f ζ B hI hN (zD_any (zD_l hD)) (zD_any (zD_r hD)) (xs (i + 1)) (xs (i + 2))
  refine lv_aload_n hx hb dL_law_177 rfl (lv_at hl 1 rfl) ?_
  refine law_ld 1 C0 hS hl (by omega) dL_law_178 dL_law_179 dL_law_180 dL_law_181 dL_law_182 (by decide +kernel) ?_
  refine law_ld 2 C0 hS hl (by omega) dL_law_183 dL_law_184 dL_law_185 dL_law_186 dL_law_187 (by decide +kernel) ?_
  refine zwrL (G := G) (va_runV (As := [.int (xs (i + 1)), .int (xs (i + 2))]) (rest := []) ⟨hx, hb, hml, hown, hts⟩ M4 (cwV 2 hts gL_law_X4_set rfl rfl rfl (by decide +kernel) ⟨Nat.le_of_ble_eq_true rfl, Nat.le_of_ble_eq_true rfl⟩) (zPreV hG (va_recv (q0 := 0) (ci := 4) hG.1 (zP_l hP) rfl rfl) (zP_l hP)) rfl rfl hl.1 rfl (lv_room (Nat.le_of_ble_eq_true rfl)) dL_law_188 ⟨Nat.le_of_ble_eq_true rfl, Nat.le_of_ble_eq_true rfl⟩) hP hD hS (wX_map ..) (fun H locs hP hD hS => ?_)
  refine lv_aload_n hx hb dL_law_191 rfl (lv_at hl 2 rfl) ?_
  refine law_ld 1 C0 hS hl (by omega) dL_law_192 dL_law_193 dL_law_194 dL_law_195 dL_law_196 (by decide +kernel) ?_
  refine law_ld 2 C0 hS hl (by omega) dL_law_197 dL_law_198 dL_law_199 dL_law_200 dL_law_201 (by decide +kernel) ?_
  refine zwrR (G := G) (va_runV (As := [.int (xs (i + 1)), .int (xs (i + 2))]) (rest := [.int v]) ⟨hx, hb, hml, hown, hts⟩ M5 (cwV 2 hts gL_law_X5_set rfl rfl rfl (by decide +kernel) ⟨Nat.le_of_ble_eq_true rfl, Nat.le_of_ble_eq_true rfl⟩) (zPreV hG (va_recv (q0 := 0) (ci := 5) hG.1 (zP_r hP) rfl rfl) (zP_r hP)) rfl rfl hl.1 rfl (lv_room (Nat.le_of_ble_eq_true rfl)) dL_law_202 ⟨Nat.le_of_ble_eq_true rfl, Nat.le_of_ble_eq_true rfl⟩) hP hD hS (wM_map ..) (fun H locs hP hD hS => ?_)
  refine lv_icmp_eq (tgt := 866) hx hb dL_law_205 (by decide) (fun _ => ?_) (fun h => absurd rfl h)
  exact kk _ _ _ _ _ _ _ _ _ _ _ _ _ hI' hP hD hS hl
set_option maxHeartbeats 4000000 in
set_option maxRecDepth 20000 in
theorem lc_show {p : Program} {l : Launch} {e : Env} {s : State} {mi : MethodId} {below : List Frame} {meth : Method} {c : Code} {Q : State → Prop} {b L : Nat} {xs : Nat → Int32} {G : zG} {ad : Nat → Nat → Nat} {m : Nat → Nat} {N i : Nat} {σ : Nat → Nat} {T : Nat → Nat → Nat} {o n : Nat} {f : Nat → Int32} {x : Nat → Nat} {len : Nat} {V : Nat → Nat → Nat} {ζ : Nat → Nat} {B : Nat → Int32} {H : Heap} {locs : List Loc} {ls : Array Slot} (C0 : LC p s mi c b L xs) (hG : zK G s) (hI : Iv N σ T o n V x len) (hN : N + 1 < 100000) (hi : i + 5 ≤ L) (hP : va_P G.1 vwCl (wX G ad σ T o n f x len ++ wM G m σ V ζ n x len B) H) (hD : va_D (lA s) (wX G ad σ T o n f x len ++ wM G m σ V ζ n x len B)) (hS : va_S (lA s) s.heap H locs) (hl : lv_has ls 4 (lL b i (ad 0 0) (m 0))) (kk : LK p l e s mi below meth c Q G ad m b (N + 1) i) : W p l e room_1 s mi #[Value.ref b] below meth c H locs 600000 7302250 Q (F0 mi 210 ls []) := by
  obtain ⟨hx, hb, hml, hown, hts, hX, hbl, hL⟩ := id C0
  obtain ⟨v, σ', T', o', n', f', x', len', V', ζ', B', hI', M4, M5⟩ := pr_show l G ad m f ζ B hI hN (zD_any (zD_l hD)) (zD_any (zD_r hD)) (xs (i + 1)) (xs (i + 2)) (xs (i + 3)) (xs (i + 4))
  refine lv_aload_n hx hb dL_law_210 rfl (lv_at hl 1 rfl) ?_
  refine law_ld 1 C0 hS hl (by omega) dL_law_211 dL_law_212 dL_law_213 dL_law_214 dL_law_215 (by decide +kernel) ?_
  refine law_ld 2 C0 hS hl (by omega) dL_law_216 dL_law_217 dL_law_218 dL_law_219 dL_law_220 (by decide +kernel) ?_
  refine law_ld 3 C0 hS hl (by omega) dL_law_221 dL_law_222 dL_law_223 dL_law_224 dL_law_225 (by decide +kernel) ?_
  refine law_ld 4 C0 hS hl (by omega) dL_law_226 dL_law_227 dL_law_228 dL_law_229 dL_law_230 (by decide +kernel) ?_
  refine zwrL (G := G) (va_runV (As := [.int (xs (i + 1)), .int (xs (i + 2)), .int (xs (i + 3)), .int (xs (i + 4))]) (rest := []) ⟨hx, hb, hml, hown, hts⟩ M4 (cwV 4 hts gL_law_X4_show rfl rfl rfl (by decide +kernel) ⟨Nat.le_of_ble_eq_true rfl, Nat.le_of_ble_eq_true rfl⟩) (zPreV hG (va_recv (q0 := 0) (ci := 4) hG.1 (zP_l hP) rfl rfl) (zP_l hP)) rfl rfl hl.1 rfl (lv_room (Nat.le_of_ble_eq_true rfl)) dL_law_231 ⟨Nat.le_of_ble_eq_true rfl, Nat.le_of_ble_eq_true rfl⟩) hP hD hS (wX_map ..) (fun H locs hP hD hS => ?_)
  refine lv_aload_n hx hb dL_law_234 rfl (lv_at hl 2 rfl) ?_
  refine law_ld 1 C0 hS hl (by omega) dL_law_235 dL_law_236 dL_law_237 dL_law_238 dL_law_239 (by decide +kernel) ?_
  refine law_ld 2 C0 hS hl (by omega) dL_law_240 dL_law_241 dL_law_242 dL_law_243 dL_law_244 (by decide +kernel) ?_
  refine law_ld 3 C0 hS hl (by omega) dL_law_245 dL_law_246 dL_law_247 dL_law_248 dL_law_249 (by decide +kernel) ?_
  refine law_ld 4 C0 hS hl (by omega) dL_law_250 dL_law_251 dL_law_252 dL_law_253 dL_law_254 (by decide +kernel) ?_
  refine zwrR (G := G) (va_runV (As := [.int (xs (i + 1)), .int (xs (i + 2)), .int (xs (i + 3)), .int (xs (i + 4))]) (rest := [.int v]) ⟨hx, hb, hml, hown, hts⟩ M5 (cwV 4 hts gL_law_X5_show rfl rfl rfl (by decide +kernel) ⟨Nat.le_of_ble_eq_true rfl, Nat.le_of_ble_eq_true rfl⟩) (zPreV hG (va_recv (q0 := 0) (ci := 5) hG.1 (zP_r hP) rfl rfl) (zP_r hP)) rfl rfl hl.1 rfl (lv_room (Nat.le_of_ble_eq_true rfl)) dL_law_255 ⟨Nat.le_of_ble_eq_true rfl, Nat.le_of_ble_eq_true rfl⟩) hP hD hS (wM_map ..) (fun H locs hP hD hS => ?_)
  refine lv_icmp_eq (tgt := 866) hx hb dL_law_258 (by decide) (fun _ => ?_) (fun h => absurd rfl h)
  exact kk _ _ _ _ _ _ _ _ _ _ _ _ _ hI' hP hD hS hl
set_option maxHeartbeats 4000000 in
set_option maxRecDepth 20000 in
theorem lc_erase {p : Program} {l : Launch} {e : Env} {s : State} {mi : MethodId} {below : List Frame} {meth : Method} {c : Code} {Q : State → Prop} {b L : Nat} {xs : Nat → Int32} {G : zG} {ad : Nat → Nat → Nat} {m : Nat → Nat} {N i : Nat} {σ : Nat → Nat} {T : Nat → Nat → Nat} {o n : Nat} {f : Nat → Int32} {x : Nat → Nat} {len : Nat} {V : Nat → Nat → Nat} {ζ : Nat → Nat} {B : Nat → Int32} {H : Heap} {locs : List Loc} {ls : Array Slot} (C0 : LC p s mi c b L xs) (hG : zK G s) (hI : Iv N σ T o n V x len) (hN : N + 1 < 100000) (hi : i + 5 ≤ L) (hP : va_P G.1 vwCl (wX G ad σ T o n f x len ++ wM G m σ V ζ n x len B) H) (hD : va_D (lA s) (wX G ad σ T o n f x len ++ wM G m σ V ζ n x len B)) (hS : va_S (lA s) s.heap H locs) (hl : lv_has ls 4 (lL b i (ad 0 0) (m 0))) (kk : LK p l e s mi below meth c Q G ad m b (N + 1) i) : W p l e room_1 s mi #[Value.ref b] below meth c H locs 600000 7302250 Q (F0 mi 263 ls []) := by
  obtain ⟨hx, hb, hml, hown, hts, hX, hbl, hL⟩ := id C0
  obtain ⟨v, σ', T', o', n', f', x', len', V', ζ', B', hI', M4, M5⟩ := pr_erase l G ad m f ζ B hI hN (zD_any (zD_l hD)) (zD_any (zD_r hD)) (xs (i + 1)) (xs (i + 2)) (xs (i + 3))
  refine lv_aload_n hx hb dL_law_263 rfl (lv_at hl 1 rfl) ?_
  refine law_ld 1 C0 hS hl (by omega) dL_law_264 dL_law_265 dL_law_266 dL_law_267 dL_law_268 (by decide +kernel) ?_
  refine law_ld 2 C0 hS hl (by omega) dL_law_269 dL_law_270 dL_law_271 dL_law_272 dL_law_273 (by decide +kernel) ?_
  refine law_ld 3 C0 hS hl (by omega) dL_law_274 dL_law_275 dL_law_276 dL_law_277 dL_law_278 (by decide +kernel) ?_
  refine zwrL (G := G) (va_runV (As := [.int (xs (i + 1)), .int (xs (i + 2)), .int (xs (i + 3))]) (rest := []) ⟨hx, hb, hml, hown, hts⟩ M4 (cwV 3 hts gL_law_X4_erase rfl rfl rfl (by decide +kernel) ⟨Nat.le_of_ble_eq_true rfl, Nat.le_of_ble_eq_true rfl⟩) (zPreV hG (va_recv (q0 := 0) (ci := 4) hG.1 (zP_l hP) rfl rfl) (zP_l hP)) rfl rfl hl.1 rfl (lv_room (Nat.le_of_ble_eq_true rfl)) dL_law_279 ⟨Nat.le_of_ble_eq_true rfl, Nat.le_of_ble_eq_true rfl⟩) hP hD hS (wX_map ..) (fun H locs hP hD hS => ?_)
  refine lv_aload_n hx hb dL_law_282 rfl (lv_at hl 2 rfl) ?_
  refine law_ld 1 C0 hS hl (by omega) dL_law_283 dL_law_284 dL_law_285 dL_law_286 dL_law_287 (by decide +kernel) ?_
  refine law_ld 2 C0 hS hl (by omega) dL_law_288 dL_law_289 dL_law_290 dL_law_291 dL_law_292 (by decide +kernel) ?_
  refine law_ld 3 C0 hS hl (by omega) dL_law_293 dL_law_294 dL_law_295 dL_law_296 dL_law_297 (by decide +kernel) ?_
  refine zwrR (G := G) (va_runV (As := [.int (xs (i + 1)), .int (xs (i + 2)), .int (xs (i + 3))]) (rest := [.int v]) ⟨hx, hb, hml, hown, hts⟩ M5 (cwV 3 hts gL_law_X5_erase rfl rfl rfl (by decide +kernel) ⟨Nat.le_of_ble_eq_true rfl, Nat.le_of_ble_eq_true rfl⟩) (zPreV hG (va_recv (q0 := 0) (ci := 5) hG.1 (zP_r hP) rfl rfl) (zP_r hP)) rfl rfl hl.1 rfl (lv_room (Nat.le_of_ble_eq_true rfl)) dL_law_298 ⟨Nat.le_of_ble_eq_true rfl, Nat.le_of_ble_eq_true rfl⟩) hP hD hS (wM_map ..) (fun H locs hP hD hS => ?_)
  refine lv_icmp_eq (tgt := 866) hx hb dL_law_301 (by decide) (fun _ => ?_) (fun h => absurd rfl h)
  exact kk _ _ _ _ _ _ _ _ _ _ _ _ _ hI' hP hD hS hl
set_option maxHeartbeats 4000000 in
set_option maxRecDepth 20000 in
theorem lc_mean {p : Program} {l : Launch} {e : Env} {s : State} {mi : MethodId} {below : List Frame} {meth : Method} {c : Code} {Q : State → Prop} {b L : Nat} {xs : Nat → Int32} {G : zG} {ad : Nat → Nat → Nat} {m : Nat → Nat} {N i : Nat} {σ : Nat → Nat} {T : Nat → Nat → Nat} {o n : Nat} {f : Nat → Int32} {x : Nat → Nat} {len : Nat} {V : Nat → Nat → Nat} {ζ : Nat → Nat} {B : Nat → Int32} {H : Heap} {locs : List Loc} {ls : Array Slot} (C0 : LC p s mi c b L xs) (hG : zK G s) (hI : Iv N σ T o n V x len) (hN : N + 1 < 100000) (hi : i + 5 ≤ L) (hP : va_P G.1 vwCl (wX G ad σ T o n f x len ++ wM G m σ V ζ n x len B) H) (hD : va_D (lA s) (wX G ad σ T o n f x len ++ wM G m σ V ζ n x len B)) (hS : va_S (lA s) s.heap H locs) (hl : lv_has ls 4 (lL b i (ad 0 0) (m 0))) (kk : LK p l e s mi below meth c Q G ad m b (N + 1) i) : W p l e room_1 s mi #[Value.ref b] below meth c H locs 600000 7302250 Q (F0 mi 306 ls []) := by
  obtain ⟨hx, hb, hml, hown, hts, hX, hbl, hL⟩ := id C0
  obtain ⟨v, σ', T', o', n', f', x', len', V', ζ', B', hI', M4, M5⟩ := pr_mean l G ad m f ζ B hI hN (zD_any (zD_l hD)) (zD_any (zD_r hD)) (xs (i + 1)) (xs (i + 2)) (xs (i + 3))
  refine lv_aload_n hx hb dL_law_306 rfl (lv_at hl 1 rfl) ?_
  refine law_ld 1 C0 hS hl (by omega) dL_law_307 dL_law_308 dL_law_309 dL_law_310 dL_law_311 (by decide +kernel) ?_
  refine law_ld 2 C0 hS hl (by omega) dL_law_312 dL_law_313 dL_law_314 dL_law_315 dL_law_316 (by decide +kernel) ?_
  refine law_ld 3 C0 hS hl (by omega) dL_law_317 dL_law_318 dL_law_319 dL_law_320 dL_law_321 (by decide +kernel) ?_
  refine zwrL (G := G) (va_runV (As := [.int (xs (i + 1)), .int (xs (i + 2)), .int (xs (i + 3))]) (rest := []) ⟨hx, hb, hml, hown, hts⟩ M4 (cwV 3 hts gL_law_X4_mean rfl rfl rfl (by decide +kernel) ⟨Nat.le_of_ble_eq_true rfl, Nat.le_of_ble_eq_true rfl⟩) (zPreV hG (va_recv (q0 := 0) (ci := 4) hG.1 (zP_l hP) rfl rfl) (zP_l hP)) rfl rfl hl.1 rfl (lv_room (Nat.le_of_ble_eq_true rfl)) dL_law_322 ⟨Nat.le_of_ble_eq_true rfl, Nat.le_of_ble_eq_true rfl⟩) hP hD hS (wX_map ..) (fun H locs hP hD hS => ?_)
  refine lv_aload_n hx hb dL_law_325 rfl (lv_at hl 2 rfl) ?_
  refine law_ld 1 C0 hS hl (by omega) dL_law_326 dL_law_327 dL_law_328 dL_law_329 dL_law_330 (by decide +kernel) ?_
  refine law_ld 2 C0 hS hl (by omega) dL_law_331 dL_law_332 dL_law_333 dL_law_334 dL_law_335 (by decide +kernel) ?_
  refine law_ld 3 C0 hS hl (by omega) dL_law_336 dL_law_337 dL_law_338 dL_law_339 dL_law_340 (by decide +kernel) ?_
  refine zwrR (G := G) (va_runV (As := [.int (xs (i + 1)), .int (xs (i + 2)), .int (xs (i + 3))]) (rest := [.int v]) ⟨hx, hb, hml, hown, hts⟩ M5 (cwV 3 hts gL_law_X5_mean rfl rfl rfl (by decide +kernel) ⟨Nat.le_of_ble_eq_true rfl, Nat.le_of_ble_eq_true rfl⟩) (zPreV hG (va_recv (q0 := 0) (ci := 5) hG.1 (zP_r hP) rfl rfl) (zP_r hP)) rfl rfl hl.1 rfl (lv_room (Nat.le_of_ble_eq_true rfl)) dL_law_341 ⟨Nat.le_of_ble_eq_true rfl, Nat.le_of_ble_eq_true rfl⟩) hP hD hS (wM_map ..) (fun H locs hP hD hS => ?_)
  refine lv_icmp_eq (tgt := 866) hx hb dL_law_344 (by decide) (fun _ => ?_) (fun h => absurd rfl h)
  exact kk _ _ _ _ _ _ _ _ _ _ _ _ _ hI' hP hD hS hl
set_option maxHeartbeats 4000000 in
set_option maxRecDepth 20000 in
theorem lc_sign {p : Program} {l : Launch} {e : Env} {s : State} {mi : MethodId} {below : List Frame} {meth : Method} {c : Code} {Q : State → Prop} {b L : Nat} {xs : Nat → Int32} {G : zG} {ad : Nat → Nat → Nat} {m : Nat → Nat} {N i : Nat} {σ : Nat → Nat} {T : Nat → Nat → Nat} {o n : Nat} {f : Nat → Int32} {x : Nat → Nat} {len : Nat} {V : Nat → Nat → Nat} {ζ : Nat → Nat} {B : Nat → Int32} {H : Heap} {locs : List Loc} {ls : Array Slot} (C0 : LC p s mi c b L xs) (hG : zK G s) (hI : Iv N σ T o n V x len) (hN : N + 1 < 100000) (hi : i + 5 ≤ L) (hP : va_P G.1 vwCl (wX G ad σ T o n f x len ++ wM G m σ V ζ n x len B) H) (hD : va_D (lA s) (wX G ad σ T o n f x len ++ wM G m σ V ζ n x len B)) (hS : va_S (lA s) s.heap H locs) (hl : lv_has ls 4 (lL b i (ad 0 0) (m 0))) (kk : LK p l e s mi below meth c Q G ad m b (N + 1) i) : W p l e room_1 s mi #[Value.ref b] below meth c H locs 600000 7302250 Q (F0 mi 349 ls []) := by
  obtain ⟨hx, hb, hml, hown, hts, hX, hbl, hL⟩ := id C0
  obtain ⟨v, σ', T', o', n', f', x', len', V', ζ', B', hI', M4, M5⟩ := pr_sign l G ad m f ζ B hI hN (zD_any (zD_l hD)) (zD_any (zD_r hD)) (xs (i + 1)) (xs (i + 2)) (xs (i + 3))
  refine lv_aload_n hx hb dL_law_349 rfl (lv_at hl 1 rfl) ?_
  refine law_ld 1 C0 hS hl (by omega) dL_law_350 dL_law_351 dL_law_352 dL_law_353 dL_law_354 (by decide +kernel) ?_
  refine law_ld 2 C0 hS hl (by omega) dL_law_355 dL_law_356 dL_law_357 dL_law_358 dL_law_359 (by decide +kernel) ?_
  refine law_ld 3 C0 hS hl (by omega) dL_law_360 dL_law_361 dL_law_362 dL_law_363 dL_law_364 (by decide +kernel) ?_
  refine zwrL (G := G) (va_runV (As := [.int (xs (i + 1)), .int (xs (i + 2)), .int (xs (i + 3))]) (rest := []) ⟨hx, hb, hml, hown, hts⟩ M4 (cwV 3 hts gL_law_X4_sign rfl rfl rfl (by decide +kernel) ⟨Nat.le_of_ble_eq_true rfl, Nat.le_of_ble_eq_true rfl⟩) (zPreV hG (va_recv (q0 := 0) (ci := 4) hG.1 (zP_l hP) rfl rfl) (zP_l hP)) rfl rfl hl.1 rfl (lv_room (Nat.le_of_ble_eq_true rfl)) dL_law_365 ⟨Nat.le_of_ble_eq_true rfl, Nat.le_of_ble_eq_true rfl⟩) hP hD hS (wX_map ..) (fun H locs hP hD hS => ?_)
  refine lv_aload_n hx hb dL_law_368 rfl (lv_at hl 2 rfl) ?_
  refine law_ld 1 C0 hS hl (by omega) dL_law_369 dL_law_370 dL_law_371 dL_law_372 dL_law_373 (by decide +kernel) ?_
  refine law_ld 2 C0 hS hl (by omega) dL_law_374 dL_law_375 dL_law_376 dL_law_377 dL_law_378 (by decide +kernel) ?_
  refine law_ld 3 C0 hS hl (by omega) dL_law_379 dL_law_380 dL_law_381 dL_law_382 dL_law_383 (by decide +kernel) ?_
  refine zwrR (G := G) (va_runV (As := [.int (xs (i + 1)), .int (xs (i + 2)), .int (xs (i + 3))]) (rest := [.int v]) ⟨hx, hb, hml, hown, hts⟩ M5 (cwV 3 hts gL_law_X5_sign rfl rfl rfl (by decide +kernel) ⟨Nat.le_of_ble_eq_true rfl, Nat.le_of_ble_eq_true rfl⟩) (zPreV hG (va_recv (q0 := 0) (ci := 5) hG.1 (zP_r hP) rfl rfl) (zP_r hP)) rfl rfl hl.1 rfl (lv_room (Nat.le_of_ble_eq_true rfl)) dL_law_384 ⟨Nat.le_of_ble_eq_true rfl, Nat.le_of_ble_eq_true rfl⟩) hP hD hS (wM_map ..) (fun H locs hP hD hS => ?_)
  refine lv_icmp_eq (tgt := 866) hx hb dL_law_387 (by decide) (fun _ => ?_) (fun h => absurd rfl h)
  exact kk _ _ _ _ _ _ _ _ _ _ _ _ _ hI' hP hD hS hl
set_option maxHeartbeats 4000000 in
set_option maxRecDepth 20000 in
theorem lc_meaning {p : Program} {l : Launch} {e : Env} {s : State} {mi : MethodId} {below : List Frame} {meth : Method} {c : Code} {Q : State → Prop} {b L : Nat} {xs : Nat → Int32} {G : zG} {ad : Nat → Nat → Nat} {m : Nat → Nat} {N i : Nat} {σ : Nat → Nat} {T : Nat → Nat → Nat} {o n : Nat} {f : Nat → Int32} {x : Nat → Nat} {len : Nat} {V : Nat → Nat → Nat} {ζ : Nat → Nat} {B : Nat → Int32} {H : Heap} {locs : List Loc} {ls : Array Slot} (C0 : LC p s mi c b L xs) (hG : zK G s) (hI : Iv N σ T o n V x len) (hN : N + 1 < 100000) (hi : i + 5 ≤ L) (hP : va_P G.1 vwCl (wX G ad σ T o n f x len ++ wM G m σ V ζ n x len B) H) (hD : va_D (lA s) (wX G ad σ T o n f x len ++ wM G m σ V ζ n x len B)) (hS : va_S (lA s) s.heap H locs) (hl : lv_has ls 4 (lL b i (ad 0 0) (m 0))) (kk : LK p l e s mi below meth c Q G ad m b (N + 1) i) : W p l e room_1 s mi #[Value.ref b] below meth c H locs 600000 7302250 Q (F0 mi 392 ls []) := by
  obtain ⟨hx, hb, hml, hown, hts, hX, hbl, hL⟩ := id C0
  obtain ⟨v, σ', T', o', n', f', x', len', V', ζ', B', hI', M4, M5⟩ := pr_meaning l G ad m f ζ B hI hN (zD_any (zD_l hD)) (zD_any (zD_r hD)) (xs (i + 1)) (xs (i + 2))
  refine lv_aload_n hx hb dL_law_392 rfl (lv_at hl 1 rfl) ?_
  refine law_ld 1 C0 hS hl (by omega) dL_law_393 dL_law_394 dL_law_395 dL_law_396 dL_law_397 (by decide +kernel) ?_
  refine law_ld 2 C0 hS hl (by omega) dL_law_398 dL_law_399 dL_law_400 dL_law_401 dL_law_402 (by decide +kernel) ?_
  refine zwrL (G := G) (va_runV (As := [.int (xs (i + 1)), .int (xs (i + 2))]) (rest := []) ⟨hx, hb, hml, hown, hts⟩ M4 (cwV 2 hts gL_law_X4_meaning rfl rfl rfl (by decide +kernel) ⟨Nat.le_of_ble_eq_true rfl, Nat.le_of_ble_eq_true rfl⟩) (zPreV hG (va_recv (q0 := 0) (ci := 4) hG.1 (zP_l hP) rfl rfl) (zP_l hP)) rfl rfl hl.1 rfl (lv_room (Nat.le_of_ble_eq_true rfl)) dL_law_403 ⟨Nat.le_of_ble_eq_true rfl, Nat.le_of_ble_eq_true rfl⟩) hP hD hS (wX_map ..) (fun H locs hP hD hS => ?_)
  refine lv_aload_n hx hb dL_law_406 rfl (lv_at hl 2 rfl) ?_
  refine law_ld 1 C0 hS hl (by omega) dL_law_407 dL_law_408 dL_law_409 dL_law_410 dL_law_411 (by decide +kernel) ?_
  refine law_ld 2 C0 hS hl (by omega) dL_law_412 dL_law_413 dL_law_414 dL_law_415 dL_law_416 (by decide +kernel) ?_
  refine zwrR (G := G) (va_runV (As := [.int (xs (i + 1)), .int (xs (i + 2))]) (rest := [.int v]) ⟨hx, hb, hml, hown, hts⟩ M5 (cwV 2 hts gL_law_X5_meaning rfl rfl rfl (by decide +kernel) ⟨Nat.le_of_ble_eq_true rfl, Nat.le_of_ble_eq_true rfl⟩) (zPreV hG (va_recv (q0 := 0) (ci := 5) hG.1 (zP_r hP) rfl rfl) (zP_r hP)) rfl rfl hl.1 rfl (lv_room (Nat.le_of_ble_eq_true rfl)) dL_law_417 ⟨Nat.le_of_ble_eq_true rfl, Nat.le_of_ble_eq_true rfl⟩) hP hD hS (wM_map ..) (fun H locs hP hD hS => ?_)
  refine lv_icmp_eq (tgt := 866) hx hb dL_law_420 (by decide) (fun _ => ?_) (fun h => absurd rfl h)
  exact kk _ _ _ _ _ _ _ _ _ _ _ _ _ hI' hP hD hS hl
set_option maxHeartbeats 4000000 in
set_option maxRecDepth 20000 in
theorem lc_sheet {p : Program} {l : Launch} {e : Env} {s : State} {mi : MethodId} {below : List Frame} {meth : Method} {c : Code} {Q : State → Prop} {b L : Nat} {xs : Nat → Int32} {G : zG} {ad : Nat → Nat → Nat} {m : Nat → Nat} {N i : Nat} {σ : Nat → Nat} {T : Nat → Nat → Nat} {o n : Nat} {f : Nat → Int32} {x : Nat → Nat} {len : Nat} {V : Nat → Nat → Nat} {ζ : Nat → Nat} {B : Nat → Int32} {H : Heap} {locs : List Loc} {ls : Array Slot} (C0 : LC p s mi c b L xs) (hG : zK G s) (hI : Iv N σ T o n V x len) (hN : N + 1 < 100000) (hi : i + 5 ≤ L) (hP : va_P G.1 vwCl (wX G ad σ T o n f x len ++ wM G m σ V ζ n x len B) H) (hD : va_D (lA s) (wX G ad σ T o n f x len ++ wM G m σ V ζ n x len B)) (hS : va_S (lA s) s.heap H locs) (hl : lv_has ls 4 (lL b i (ad 0 0) (m 0))) (kk : LK p l e s mi below meth c Q G ad m b (N + 1) i) : W p l e room_1 s mi #[Value.ref b] below meth c H locs 600000 7302250 Q (F0 mi 425 ls []) := by
  obtain ⟨hx, hb, hml, hown, hts, hX, hbl, hL⟩ := id C0
  obtain ⟨v, σ', T', o', n', f', x', len', V', ζ', B', hI', M4, M5⟩ := pr_sheet l G ad m f ζ B hI hN (zD_any (zD_l hD)) (zD_any (zD_r hD)) (xs (i + 1)) (xs (i + 2))
  refine lv_aload_n hx hb dL_law_425 rfl (lv_at hl 1 rfl) ?_
  refine law_ld 1 C0 hS hl (by omega) dL_law_426 dL_law_427 dL_law_428 dL_law_429 dL_law_430 (by decide +kernel) ?_
  refine law_ld 2 C0 hS hl (by omega) dL_law_431 dL_law_432 dL_law_433 dL_law_434 dL_law_435 (by decide +kernel) ?_
  refine zwrL (G := G) (va_runV (As := [.int (xs (i + 1)), .int (xs (i + 2))]) (rest := []) ⟨hx, hb, hml, hown, hts⟩ M4 (cwV 2 hts gL_law_X4_sheet rfl rfl rfl (by decide +kernel) ⟨Nat.le_of_ble_eq_true rfl, Nat.le_of_ble_eq_true rfl⟩) (zPreV hG (va_recv (q0 := 0) (ci := 4) hG.1 (zP_l hP) rfl rfl) (zP_l hP)) rfl rfl hl.1 rfl (lv_room (Nat.le_of_ble_eq_true rfl)) dL_law_436 ⟨Nat.le_of_ble_eq_true rfl, Nat.le_of_ble_eq_true rfl⟩) hP hD hS (wX_map ..) (fun H locs hP hD hS => ?_)
  refine lv_aload_n hx hb dL_law_439 rfl (lv_at hl 2 rfl) ?_
  refine law_ld 1 C0 hS hl (by omega) dL_law_440 dL_law_441 dL_law_442 dL_law_443 dL_law_444 (by decide +kernel) ?_
  refine law_ld 2 C0 hS hl (by omega) dL_law_445 dL_law_446 dL_law_447 dL_law_448 dL_law_449 (by decide +kernel) ?_
  refine zwrR (G := G) (va_runV (As := [.int (xs (i + 1)), .int (xs (i + 2))]) (rest := [.int v]) ⟨hx, hb, hml, hown, hts⟩ M5 (cwV 2 hts gL_law_X5_sheet rfl rfl rfl (by decide +kernel) ⟨Nat.le_of_ble_eq_true rfl, Nat.le_of_ble_eq_true rfl⟩) (zPreV hG (va_recv (q0 := 0) (ci := 5) hG.1 (zP_r hP) rfl rfl) (zP_r hP)) rfl rfl hl.1 rfl (lv_room (Nat.le_of_ble_eq_true rfl)) dL_law_450 ⟨Nat.le_of_ble_eq_true rfl, Nat.le_of_ble_eq_true rfl⟩) hP hD hS (wM_map ..) (fun H locs hP hD hS => ?_)
  refine lv_icmp_eq (tgt := 866) hx hb dL_law_453 (by decide) (fun _ => ?_) (fun h => absurd rfl h)
  exact kk _ _ _ _ _ _ _ _ _ _ _ _ _ hI' hP hD hS hl
set_option maxHeartbeats 4000000 in
set_option maxRecDepth 20000 in
theorem lc_count {p : Program} {l : Launch} {e : Env} {s : State} {mi : MethodId} {below : List Frame} {meth : Method} {c : Code} {Q : State → Prop} {b L : Nat} {xs : Nat → Int32} {G : zG} {ad : Nat → Nat → Nat} {m : Nat → Nat} {N i : Nat} {σ : Nat → Nat} {T : Nat → Nat → Nat} {o n : Nat} {f : Nat → Int32} {x : Nat → Nat} {len : Nat} {V : Nat → Nat → Nat} {ζ : Nat → Nat} {B : Nat → Int32} {H : Heap} {locs : List Loc} {ls : Array Slot} (C0 : LC p s mi c b L xs) (hG : zK G s) (hI : Iv N σ T o n V x len) (hN : N + 1 < 100000) (hi : i + 5 ≤ L) (hP : va_P G.1 vwCl (wX G ad σ T o n f x len ++ wM G m σ V ζ n x len B) H) (hD : va_D (lA s) (wX G ad σ T o n f x len ++ wM G m σ V ζ n x len B)) (hS : va_S (lA s) s.heap H locs) (hl : lv_has ls 4 (lL b i (ad 0 0) (m 0))) (kk : LK p l e s mi below meth c Q G ad m b (N + 1) i) : W p l e room_1 s mi #[Value.ref b] below meth c H locs 600000 7302250 Q (F0 mi 458 ls []) := by
  obtain ⟨hx, hb, hml, hown, hts, hX, hbl, hL⟩ := id C0
  obtain ⟨v, σ', T', o', n', f', x', len', V', ζ', B', hI', M4, M5⟩ := pr_count l G ad m f ζ B hI hN (zD_any (zD_l hD)) (zD_any (zD_r hD)) (xs (i + 1))
  refine lv_aload_n hx hb dL_law_458 rfl (lv_at hl 1 rfl) ?_
  refine law_ld 1 C0 hS hl (by omega) dL_law_459 dL_law_460 dL_law_461 dL_law_462 dL_law_463 (by decide +kernel) ?_
  refine zwrL (G := G) (va_runV (As := [.int (xs (i + 1))]) (rest := []) ⟨hx, hb, hml, hown, hts⟩ M4 (cwV 1 hts gL_law_X4_count rfl rfl rfl (by decide +kernel) ⟨Nat.le_of_ble_eq_true rfl, Nat.le_of_ble_eq_true rfl⟩) (zPreV hG (va_recv (q0 := 0) (ci := 4) hG.1 (zP_l hP) rfl rfl) (zP_l hP)) rfl rfl hl.1 rfl (lv_room (Nat.le_of_ble_eq_true rfl)) dL_law_464 ⟨Nat.le_of_ble_eq_true rfl, Nat.le_of_ble_eq_true rfl⟩) hP hD hS (wX_map ..) (fun H locs hP hD hS => ?_)
  refine lv_aload_n hx hb dL_law_467 rfl (lv_at hl 2 rfl) ?_
  refine law_ld 1 C0 hS hl (by omega) dL_law_468 dL_law_469 dL_law_470 dL_law_471 dL_law_472 (by decide +kernel) ?_
  refine zwrR (G := G) (va_runV (As := [.int (xs (i + 1))]) (rest := [.int v]) ⟨hx, hb, hml, hown, hts⟩ M5 (cwV 1 hts gL_law_X5_count rfl rfl rfl (by decide +kernel) ⟨Nat.le_of_ble_eq_true rfl, Nat.le_of_ble_eq_true rfl⟩) (zPreV hG (va_recv (q0 := 0) (ci := 5) hG.1 (zP_r hP) rfl rfl) (zP_r hP)) rfl rfl hl.1 rfl (lv_room (Nat.le_of_ble_eq_true rfl)) dL_law_473 ⟨Nat.le_of_ble_eq_true rfl, Nat.le_of_ble_eq_true rfl⟩) hP hD hS (wM_map ..) (fun H locs hP hD hS => ?_)
  refine lv_icmp_eq (tgt := 866) hx hb dL_law_476 (by decide) (fun _ => ?_) (fun h => absurd rfl h)
  exact kk _ _ _ _ _ _ _ _ _ _ _ _ _ hI' hP hD hS hl
set_option maxHeartbeats 4000000 in
set_option maxRecDepth 20000 in
theorem lc_undo {p : Program} {l : Launch} {e : Env} {s : State} {mi : MethodId} {below : List Frame} {meth : Method} {c : Code} {Q : State → Prop} {b L : Nat} {xs : Nat → Int32} {G : zG} {ad : Nat → Nat → Nat} {m : Nat → Nat} {N i : Nat} {σ : Nat → Nat} {T : Nat → Nat → Nat} {o n : Nat} {f : Nat → Int32} {x : Nat → Nat} {len : Nat} {V : Nat → Nat → Nat} {ζ : Nat → Nat} {B : Nat → Int32} {H : Heap} {locs : List Loc} {ls : Array Slot} (C0 : LC p s mi c b L xs) (hG : zK G s) (hI : Iv N σ T o n V x len) (hN : N + 1 < 100000) (hi : i + 5 ≤ L) (hP : va_P G.1 vwCl (wX G ad σ T o n f x len ++ wM G m σ V ζ n x len B) H) (hD : va_D (lA s) (wX G ad σ T o n f x len ++ wM G m σ V ζ n x len B)) (hS : va_S (lA s) s.heap H locs) (hl : lv_has ls 4 (lL b i (ad 0 0) (m 0))) (kk : LK p l e s mi below meth c Q G ad m b (N + 1) i) : W p l e room_1 s mi #[Value.ref b] below meth c H locs 600000 7302250 Q (F0 mi 481 ls []) := by
  obtain ⟨hx, hb, hml, hown, hts, hX, hbl, hL⟩ := id C0
  obtain ⟨v, σ', T', o', n', f', x', len', V', ζ', B', hI', M4, M5⟩ := pr_undo l G ad m f ζ B hI hN (zD_any (zD_l hD)) (zD_any (zD_r hD)) 
  refine lv_aload_n hx hb dL_law_481 rfl (lv_at hl 1 rfl) ?_
  refine zwrL (G := G) (va_runV (As := []) (rest := []) ⟨hx, hb, hml, hown, hts⟩ M4 (cwV 0 hts gL_law_X4_undo rfl rfl rfl (by decide +kernel) ⟨Nat.le_of_ble_eq_true rfl, Nat.le_of_ble_eq_true rfl⟩) (zPreV hG (va_recv (q0 := 0) (ci := 4) hG.1 (zP_l hP) rfl rfl) (zP_l hP)) rfl rfl hl.1 rfl (lv_room (Nat.le_of_ble_eq_true rfl)) dL_law_482 ⟨Nat.le_of_ble_eq_true rfl, Nat.le_of_ble_eq_true rfl⟩) hP hD hS (wX_map ..) (fun H locs hP hD hS => ?_)
  refine lv_aload_n hx hb dL_law_485 rfl (lv_at hl 2 rfl) ?_
  refine zwrR (G := G) (va_runV (As := []) (rest := [.int v]) ⟨hx, hb, hml, hown, hts⟩ M5 (cwV 0 hts gL_law_X5_undo rfl rfl rfl (by decide +kernel) ⟨Nat.le_of_ble_eq_true rfl, Nat.le_of_ble_eq_true rfl⟩) (zPreV hG (va_recv (q0 := 0) (ci := 5) hG.1 (zP_r hP) rfl rfl) (zP_r hP)) rfl rfl hl.1 rfl (lv_room (Nat.le_of_ble_eq_true rfl)) dL_law_486 ⟨Nat.le_of_ble_eq_true rfl, Nat.le_of_ble_eq_true rfl⟩) hP hD hS (wM_map ..) (fun H locs hP hD hS => ?_)
  refine lv_icmp_eq (tgt := 866) hx hb dL_law_489 (by decide) (fun _ => ?_) (fun h => absurd rfl h)
  exact kk _ _ _ _ _ _ _ _ _ _ _ _ _ hI' hP hD hS hl
set_option maxHeartbeats 4000000 in
set_option maxRecDepth 20000 in
theorem lc_edge {p : Program} {l : Launch} {e : Env} {s : State} {mi : MethodId} {below : List Frame} {meth : Method} {c : Code} {Q : State → Prop} {b L : Nat} {xs : Nat → Int32} {G : zG} {ad : Nat → Nat → Nat} {m : Nat → Nat} {N i : Nat} {σ : Nat → Nat} {T : Nat → Nat → Nat} {o n : Nat} {f : Nat → Int32} {x : Nat → Nat} {len : Nat} {V : Nat → Nat → Nat} {ζ : Nat → Nat} {B : Nat → Int32} {H : Heap} {locs : List Loc} {ls : Array Slot} (C0 : LC p s mi c b L xs) (hG : zK G s) (hI : Iv N σ T o n V x len) (hN : N + 1 < 100000) (hi : i + 5 ≤ L) (hP : va_P G.1 vwCl (wX G ad σ T o n f x len ++ wM G m σ V ζ n x len B) H) (hD : va_D (lA s) (wX G ad σ T o n f x len ++ wM G m σ V ζ n x len B)) (hS : va_S (lA s) s.heap H locs) (hl : lv_has ls 4 (lL b i (ad 0 0) (m 0))) (kk : LK p l e s mi below meth c Q G ad m b (N + 1) i) : W p l e room_1 s mi #[Value.ref b] below meth c H locs 600000 7302250 Q (F0 mi 494 ls []) := by
  obtain ⟨hx, hb, hml, hown, hts, hX, hbl, hL⟩ := id C0
  obtain ⟨v, σ', T', o', n', f', x', len', V', ζ', B', hI', M4, M5⟩ := pr_edge l G ad m f ζ B hI hN (zD_any (zD_l hD)) (zD_any (zD_r hD)) (xs (i + 1)) (xs (i + 2))
  refine lv_aload_n hx hb dL_law_494 rfl (lv_at hl 1 rfl) ?_
  refine law_ld 1 C0 hS hl (by omega) dL_law_495 dL_law_496 dL_law_497 dL_law_498 dL_law_499 (by decide +kernel) ?_
  refine law_ld 2 C0 hS hl (by omega) dL_law_500 dL_law_501 dL_law_502 dL_law_503 dL_law_504 (by decide +kernel) ?_
  refine zwrL (G := G) (va_runV (As := [.int (xs (i + 1)), .int (xs (i + 2))]) (rest := []) ⟨hx, hb, hml, hown, hts⟩ M4 (cwV 2 hts gL_law_X4_edge rfl rfl rfl (by decide +kernel) ⟨Nat.le_of_ble_eq_true rfl, Nat.le_of_ble_eq_true rfl⟩) (zPreV hG (va_recv (q0 := 0) (ci := 4) hG.1 (zP_l hP) rfl rfl) (zP_l hP)) rfl rfl hl.1 rfl (lv_room (Nat.le_of_ble_eq_true rfl)) dL_law_505 ⟨Nat.le_of_ble_eq_true rfl, Nat.le_of_ble_eq_true rfl⟩) hP hD hS (wX_map ..) (fun H locs hP hD hS => ?_)
  refine lv_aload_n hx hb dL_law_508 rfl (lv_at hl 2 rfl) ?_
  refine law_ld 1 C0 hS hl (by omega) dL_law_509 dL_law_510 dL_law_511 dL_law_512 dL_law_513 (by decide +kernel) ?_
  refine law_ld 2 C0 hS hl (by omega) dL_law_514 dL_law_515 dL_law_516 dL_law_517 dL_law_518 (by decide +kernel) ?_
  refine zwrR (G := G) (va_runV (As := [.int (xs (i + 1)), .int (xs (i + 2))]) (rest := [.int v]) ⟨hx, hb, hml, hown, hts⟩ M5 (cwV 2 hts gL_law_X5_edge rfl rfl rfl (by decide +kernel) ⟨Nat.le_of_ble_eq_true rfl, Nat.le_of_ble_eq_true rfl⟩) (zPreV hG (va_recv (q0 := 0) (ci := 5) hG.1 (zP_r hP) rfl rfl) (zP_r hP)) rfl rfl hl.1 rfl (lv_room (Nat.le_of_ble_eq_true rfl)) dL_law_519 ⟨Nat.le_of_ble_eq_true rfl, Nat.le_of_ble_eq_true rfl⟩) hP hD hS (wM_map ..) (fun H locs hP hD hS => ?_)
  refine lv_icmp_eq (tgt := 866) hx hb dL_law_522 (by decide) (fun _ => ?_) (fun h => absurd rfl h)
  exact kk _ _ _ _ _ _ _ _ _ _ _ _ _ hI' hP hD hS hl
set_option maxHeartbeats 4000000 in
set_option maxRecDepth 20000 in
theorem lc_edgeAt {p : Program} {l : Launch} {e : Env} {s : State} {mi : MethodId} {below : List Frame} {meth : Method} {c : Code} {Q : State → Prop} {b L : Nat} {xs : Nat → Int32} {G : zG} {ad : Nat → Nat → Nat} {m : Nat → Nat} {N i : Nat} {σ : Nat → Nat} {T : Nat → Nat → Nat} {o n : Nat} {f : Nat → Int32} {x : Nat → Nat} {len : Nat} {V : Nat → Nat → Nat} {ζ : Nat → Nat} {B : Nat → Int32} {H : Heap} {locs : List Loc} {ls : Array Slot} (C0 : LC p s mi c b L xs) (hG : zK G s) (hI : Iv N σ T o n V x len) (hN : N + 1 < 100000) (hi : i + 5 ≤ L) (hP : va_P G.1 vwCl (wX G ad σ T o n f x len ++ wM G m σ V ζ n x len B) H) (hD : va_D (lA s) (wX G ad σ T o n f x len ++ wM G m σ V ζ n x len B)) (hS : va_S (lA s) s.heap H locs) (hl : lv_has ls 4 (lL b i (ad 0 0) (m 0))) (kk : LK p l e s mi below meth c Q G ad m b (N + 1) i) : W p l e room_1 s mi #[Value.ref b] below meth c H locs 600000 7302250 Q (F0 mi 527 ls []) := by
  obtain ⟨hx, hb, hml, hown, hts, hX, hbl, hL⟩ := id C0
  obtain ⟨v, σ', T', o', n', f', x', len', V', ζ', B', hI', M4, M5⟩ := pr_edgeAt l G ad m f ζ B hI hN (zD_any (zD_l hD)) (zD_any (zD_r hD)) (xs (i + 1)) (xs (i + 2))
  refine lv_aload_n hx hb dL_law_527 rfl (lv_at hl 1 rfl) ?_
  refine law_ld 1 C0 hS hl (by omega) dL_law_528 dL_law_529 dL_law_530 dL_law_531 dL_law_532 (by decide +kernel) ?_
  refine law_ld 2 C0 hS hl (by omega) dL_law_533 dL_law_534 dL_law_535 dL_law_536 dL_law_537 (by decide +kernel) ?_
  refine zwrL (G := G) (va_runV (As := [.int (xs (i + 1)), .int (xs (i + 2))]) (rest := []) ⟨hx, hb, hml, hown, hts⟩ M4 (cwV 2 hts gL_law_X4_edgeAt rfl rfl rfl (by decide +kernel) ⟨Nat.le_of_ble_eq_true rfl, Nat.le_of_ble_eq_true rfl⟩) (zPreV hG (va_recv (q0 := 0) (ci := 4) hG.1 (zP_l hP) rfl rfl) (zP_l hP)) rfl rfl hl.1 rfl (lv_room (Nat.le_of_ble_eq_true rfl)) dL_law_538 ⟨Nat.le_of_ble_eq_true rfl, Nat.le_of_ble_eq_true rfl⟩) hP hD hS (wX_map ..) (fun H locs hP hD hS => ?_)
  refine lv_aload_n hx hb dL_law_541 rfl (lv_at hl 2 rfl) ?_
  refine law_ld 1 C0 hS hl (by omega) dL_law_542 dL_law_543 dL_law_544 dL_law_545 dL_law_546 (by decide +kernel) ?_
  refine law_ld 2 C0 hS hl (by omega) dL_law_547 dL_law_548 dL_law_549 dL_law_550 dL_law_551 (by decide +kernel) ?_
  refine zwrR (G := G) (va_runV (As := [.int (xs (i + 1)), .int (xs (i + 2))]) (rest := [.int v]) ⟨hx, hb, hml, hown, hts⟩ M5 (cwV 2 hts gL_law_X5_edgeAt rfl rfl rfl (by decide +kernel) ⟨Nat.le_of_ble_eq_true rfl, Nat.le_of_ble_eq_true rfl⟩) (zPreV hG (va_recv (q0 := 0) (ci := 5) hG.1 (zP_r hP) rfl rfl) (zP_r hP)) rfl rfl hl.1 rfl (lv_room (Nat.le_of_ble_eq_true rfl)) dL_law_552 ⟨Nat.le_of_ble_eq_true rfl, Nat.le_of_ble_eq_true rfl⟩) hP hD hS (wM_map ..) (fun H locs hP hD hS => ?_)
  refine lv_icmp_eq (tgt := 866) hx hb dL_law_555 (by decide) (fun _ => ?_) (fun h => absurd rfl h)
  exact kk _ _ _ _ _ _ _ _ _ _ _ _ _ hI' hP hD hS hl
set_option maxHeartbeats 4000000 in
set_option maxRecDepth 20000 in
theorem lc_quarrel {p : Program} {l : Launch} {e : Env} {s : State} {mi : MethodId} {below : List Frame} {meth : Method} {c : Code} {Q : State → Prop} {b L : Nat} {xs : Nat → Int32} {G : zG} {ad : Nat → Nat → Nat} {m : Nat → Nat} {N i : Nat} {σ : Nat → Nat} {T : Nat → Nat → Nat} {o n : Nat} {f : Nat → Int32} {x : Nat → Nat} {len : Nat} {V : Nat → Nat → Nat} {ζ : Nat → Nat} {B : Nat → Int32} {H : Heap} {locs : List Loc} {ls : Array Slot} (C0 : LC p s mi c b L xs) (hG : zK G s) (hI : Iv N σ T o n V x len) (hN : N + 1 < 100000) (hi : i + 5 ≤ L) (hP : va_P G.1 vwCl (wX G ad σ T o n f x len ++ wM G m σ V ζ n x len B) H) (hD : va_D (lA s) (wX G ad σ T o n f x len ++ wM G m σ V ζ n x len B)) (hS : va_S (lA s) s.heap H locs) (hl : lv_has ls 4 (lL b i (ad 0 0) (m 0))) (kk : LK p l e s mi below meth c Q G ad m b (N + 1) i) : W p l e room_1 s mi #[Value.ref b] below meth c H locs 600000 7302250 Q (F0 mi 560 ls []) := by
  obtain ⟨hx, hb, hml, hown, hts, hX, hbl, hL⟩ := id C0
  obtain ⟨v, σ', T', o', n', f', x', len', V', ζ', B', hI', M4, M5⟩ := pr_quarrel l G ad m f ζ B hI hN (zD_any (zD_l hD)) (zD_any (zD_r hD)) (xs (i + 1)) (xs (i + 2)) (xs (i + 3))
  refine lv_aload_n hx hb dL_law_560 rfl (lv_at hl 1 rfl) ?_
  refine law_ld 1 C0 hS hl (by omega) dL_law_561 dL_law_562 dL_law_563 dL_law_564 dL_law_565 (by decide +kernel) ?_
  refine law_ld 2 C0 hS hl (by omega) dL_law_566 dL_law_567 dL_law_568 dL_law_569 dL_law_570 (by decide +kernel) ?_
  refine law_ld 3 C0 hS hl (by omega) dL_law_571 dL_law_572 dL_law_573 dL_law_574 dL_law_575 (by decide +kernel) ?_
  refine zwrL (G := G) (va_runV (As := [.int (xs (i + 1)), .int (xs (i + 2)), .int (xs (i + 3))]) (rest := []) ⟨hx, hb, hml, hown, hts⟩ M4 (cwV 3 hts gL_law_X4_quarrel rfl rfl rfl (by decide +kernel) ⟨Nat.le_of_ble_eq_true rfl, Nat.le_of_ble_eq_true rfl⟩) (zPreV hG (va_recv (q0 := 0) (ci := 4) hG.1 (zP_l hP) rfl rfl) (zP_l hP)) rfl rfl hl.1 rfl (lv_room (Nat.le_of_ble_eq_true rfl)) dL_law_576 ⟨Nat.le_of_ble_eq_true rfl, Nat.le_of_ble_eq_true rfl⟩) hP hD hS (wX_map ..) (fun H locs hP hD hS => ?_)
  refine lv_aload_n hx hb dL_law_579 rfl (lv_at hl 2 rfl) ?_
  refine law_ld 1 C0 hS hl (by omega) dL_law_580 dL_law_581 dL_law_582 dL_law_583 dL_law_584 (by decide +kernel) ?_
  refine law_ld 2 C0 hS hl (by omega) dL_law_585 dL_law_586 dL_law_587 dL_law_588 dL_law_589 (by decide +kernel) ?_
  refine law_ld 3 C0 hS hl (by omega) dL_law_590 dL_law_591 dL_law_592 dL_law_593 dL_law_594 (by decide +kernel) ?_
  refine zwrR (G := G) (va_runV (As := [.int (xs (i + 1)), .int (xs (i + 2)), .int (xs (i + 3))]) (rest := [.int v]) ⟨hx, hb, hml, hown, hts⟩ M5 (cwV 3 hts gL_law_X5_quarrel rfl rfl rfl (by decide +kernel) ⟨Nat.le_of_ble_eq_true rfl, Nat.le_of_ble_eq_true rfl⟩) (zPreV hG (va_recv (q0 := 0) (ci := 5) hG.1 (zP_r hP) rfl rfl) (zP_r hP)) rfl rfl hl.1 rfl (lv_room (Nat.le_of_ble_eq_true rfl)) dL_law_595 ⟨Nat.le_of_ble_eq_true rfl, Nat.le_of_ble_eq_true rfl⟩) hP hD hS (wM_map ..) (fun H locs hP hD hS => ?_)
  refine lv_icmp_eq (tgt := 866) hx hb dL_law_598 (by decide) (fun _ => ?_) (fun h => absurd rfl h)
  exact kk _ _ _ _ _ _ _ _ _ _ _ _ _ hI' hP hD hS hl
set_option maxHeartbeats 4000000 in
set_option maxRecDepth 20000 in
theorem lc_agree {p : Program} {l : Launch} {e : Env} {s : State} {mi : MethodId} {below : List Frame} {meth : Method} {c : Code} {Q : State → Prop} {b L : Nat} {xs : Nat → Int32} {G : zG} {ad : Nat → Nat → Nat} {m : Nat → Nat} {N i : Nat} {σ : Nat → Nat} {T : Nat → Nat → Nat} {o n : Nat} {f : Nat → Int32} {x : Nat → Nat} {len : Nat} {V : Nat → Nat → Nat} {ζ : Nat → Nat} {B : Nat → Int32} {H : Heap} {locs : List Loc} {ls : Array Slot} (C0 : LC p s mi c b L xs) (hG : zK G s) (hI : Iv N σ T o n V x len) (hN : N + 1 < 100000) (hi : i + 5 ≤ L) (hP : va_P G.1 vwCl (wX G ad σ T o n f x len ++ wM G m σ V ζ n x len B) H) (hD : va_D (lA s) (wX G ad σ T o n f x len ++ wM G m σ V ζ n x len B)) (hS : va_S (lA s) s.heap H locs) (hl : lv_has ls 4 (lL b i (ad 0 0) (m 0))) (kk : LK p l e s mi below meth c Q G ad m b (N + 1) i) : W p l e room_1 s mi #[Value.ref b] below meth c H locs 600000 7302250 Q (F0 mi 603 ls []) := by
  obtain ⟨hx, hb, hml, hown, hts, hX, hbl, hL⟩ := id C0
  obtain ⟨v, σ', T', o', n', f', x', len', V', ζ', B', hI', M4, M5⟩ := pr_agree l G ad m f ζ B hI hN (zD_any (zD_l hD)) (zD_any (zD_r hD)) (xs (i + 1))
  refine lv_aload_n hx hb dL_law_603 rfl (lv_at hl 1 rfl) ?_
  refine law_ld 1 C0 hS hl (by omega) dL_law_604 dL_law_605 dL_law_606 dL_law_607 dL_law_608 (by decide +kernel) ?_
  refine zwrL (G := G) (va_runV (As := [.int (xs (i + 1))]) (rest := []) ⟨hx, hb, hml, hown, hts⟩ M4 (cwV 1 hts gL_law_X4_agree rfl rfl rfl (by decide +kernel) ⟨Nat.le_of_ble_eq_true rfl, Nat.le_of_ble_eq_true rfl⟩) (zPreV hG (va_recv (q0 := 0) (ci := 4) hG.1 (zP_l hP) rfl rfl) (zP_l hP)) rfl rfl hl.1 rfl (lv_room (Nat.le_of_ble_eq_true rfl)) dL_law_609 ⟨Nat.le_of_ble_eq_true rfl, Nat.le_of_ble_eq_true rfl⟩) hP hD hS (wX_map ..) (fun H locs hP hD hS => ?_)
  refine lv_aload_n hx hb dL_law_612 rfl (lv_at hl 2 rfl) ?_
  refine law_ld 1 C0 hS hl (by omega) dL_law_613 dL_law_614 dL_law_615 dL_law_616 dL_law_617 (by decide +kernel) ?_
  refine zwrR (G := G) (va_runV (As := [.int (xs (i + 1))]) (rest := [.int v]) ⟨hx, hb, hml, hown, hts⟩ M5 (cwV 1 hts gL_law_X5_agree rfl rfl rfl (by decide +kernel) ⟨Nat.le_of_ble_eq_true rfl, Nat.le_of_ble_eq_true rfl⟩) (zPreV hG (va_recv (q0 := 0) (ci := 5) hG.1 (zP_r hP) rfl rfl) (zP_r hP)) rfl rfl hl.1 rfl (lv_room (Nat.le_of_ble_eq_true rfl)) dL_law_618 ⟨Nat.le_of_ble_eq_true rfl, Nat.le_of_ble_eq_true rfl⟩) hP hD hS (wM_map ..) (fun H locs hP hD hS => ?_)
  refine lv_icmp_eq (tgt := 866) hx hb dL_law_621 (by decide) (fun _ => ?_) (fun h => absurd rfl h)
  exact kk _ _ _ _ _ _ _ _ _ _ _ _ _ hI' hP hD hS hl
set_option maxHeartbeats 4000000 in
set_option maxRecDepth 20000 in
theorem lc_release {p : Program} {l : Launch} {e : Env} {s : State} {mi : MethodId} {below : List Frame} {meth : Method} {c : Code} {Q : State → Prop} {b L : Nat} {xs : Nat → Int32} {G : zG} {ad : Nat → Nat → Nat} {m : Nat → Nat} {N i : Nat} {σ : Nat → Nat} {T : Nat → Nat → Nat} {o n : Nat} {f : Nat → Int32} {x : Nat → Nat} {len : Nat} {V : Nat → Nat → Nat} {ζ : Nat → Nat} {B : Nat → Int32} {H : Heap} {locs : List Loc} {ls : Array Slot} (C0 : LC p s mi c b L xs) (hG : zK G s) (hI : Iv N σ T o n V x len) (hN : N + 1 < 100000) (hi : i + 5 ≤ L) (hP : va_P G.1 vwCl (wX G ad σ T o n f x len ++ wM G m σ V ζ n x len B) H) (hD : va_D (lA s) (wX G ad σ T o n f x len ++ wM G m σ V ζ n x len B)) (hS : va_S (lA s) s.heap H locs) (hl : lv_has ls 4 (lL b i (ad 0 0) (m 0))) (kk : LK p l e s mi below meth c Q G ad m b (N + 1) i) : W p l e room_1 s mi #[Value.ref b] below meth c H locs 600000 7302250 Q (F0 mi 626 ls []) := by
  obtain ⟨hx, hb, hml, hown, hts, hX, hbl, hL⟩ := id C0
  obtain ⟨v, σ', T', o', n', f', x', len', V', ζ', B', hI', M4, M5⟩ := pr_release l G ad m f ζ B hI hN (zD_any (zD_l hD)) (zD_any (zD_r hD)) (xs (i + 1))
  refine lv_aload_n hx hb dL_law_626 rfl (lv_at hl 1 rfl) ?_
  refine law_ld 1 C0 hS hl (by omega) dL_law_627 dL_law_628 dL_law_629 dL_law_630 dL_law_631 (by decide +kernel) ?_
  refine zwrL (G := G) (va_runV (As := [.int (xs (i + 1))]) (rest := []) ⟨hx, hb, hml, hown, hts⟩ M4 (cwV 1 hts gL_law_X4_release rfl rfl rfl (by decide +kernel) ⟨Nat.le_of_ble_eq_true rfl, Nat.le_of_ble_eq_true rfl⟩) (zPreV hG (va_recv (q0 := 0) (ci := 4) hG.1 (zP_l hP) rfl rfl) (zP_l hP)) rfl rfl hl.1 rfl (lv_room (Nat.le_of_ble_eq_true rfl)) dL_law_632 ⟨Nat.le_of_ble_eq_true rfl, Nat.le_of_ble_eq_true rfl⟩) hP hD hS (wX_map ..) (fun H locs hP hD hS => ?_)
  refine lv_aload_n hx hb dL_law_635 rfl (lv_at hl 2 rfl) ?_
  refine law_ld 1 C0 hS hl (by omega) dL_law_636 dL_law_637 dL_law_638 dL_law_639 dL_law_640 (by decide +kernel) ?_
  refine zwrR (G := G) (va_runV (As := [.int (xs (i + 1))]) (rest := [.int v]) ⟨hx, hb, hml, hown, hts⟩ M5 (cwV 1 hts gL_law_X5_release rfl rfl rfl (by decide +kernel) ⟨Nat.le_of_ble_eq_true rfl, Nat.le_of_ble_eq_true rfl⟩) (zPreV hG (va_recv (q0 := 0) (ci := 5) hG.1 (zP_r hP) rfl rfl) (zP_r hP)) rfl rfl hl.1 rfl (lv_room (Nat.le_of_ble_eq_true rfl)) dL_law_641 ⟨Nat.le_of_ble_eq_true rfl, Nat.le_of_ble_eq_true rfl⟩) hP hD hS (wM_map ..) (fun H locs hP hD hS => ?_)
  refine lv_icmp_eq (tgt := 866) hx hb dL_law_644 (by decide) (fun _ => ?_) (fun h => absurd rfl h)
  exact kk _ _ _ _ _ _ _ _ _ _ _ _ _ hI' hP hD hS hl
set_option maxHeartbeats 4000000 in
set_option maxRecDepth 20000 in
theorem lc_settle {p : Program} {l : Launch} {e : Env} {s : State} {mi : MethodId} {below : List Frame} {meth : Method} {c : Code} {Q : State → Prop} {b L : Nat} {xs : Nat → Int32} {G : zG} {ad : Nat → Nat → Nat} {m : Nat → Nat} {N i : Nat} {σ : Nat → Nat} {T : Nat → Nat → Nat} {o n : Nat} {f : Nat → Int32} {x : Nat → Nat} {len : Nat} {V : Nat → Nat → Nat} {ζ : Nat → Nat} {B : Nat → Int32} {H : Heap} {locs : List Loc} {ls : Array Slot} (C0 : LC p s mi c b L xs) (hG : zK G s) (hI : Iv N σ T o n V x len) (hN : N + 1 < 100000) (hi : i + 5 ≤ L) (hP : va_P G.1 vwCl (wX G ad σ T o n f x len ++ wM G m σ V ζ n x len B) H) (hD : va_D (lA s) (wX G ad σ T o n f x len ++ wM G m σ V ζ n x len B)) (hS : va_S (lA s) s.heap H locs) (hl : lv_has ls 4 (lL b i (ad 0 0) (m 0))) (kk : LK p l e s mi below meth c Q G ad m b (N + 1) i) : W p l e room_1 s mi #[Value.ref b] below meth c H locs 600000 7302250 Q (F0 mi 649 ls []) := by
  obtain ⟨hx, hb, hml, hown, hts, hX, hbl, hL⟩ := id C0
  obtain ⟨v, σ', T', o', n', f', x', len', V', ζ', B', hI', M4, M5⟩ := pr_settle l G ad m f ζ B hI hN (zD_any (zD_l hD)) (zD_any (zD_r hD)) (xs (i + 1)) (xs (i + 2))
  refine lv_aload_n hx hb dL_law_649 rfl (lv_at hl 1 rfl) ?_
  refine law_ld 1 C0 hS hl (by omega) dL_law_650 dL_law_651 dL_law_652 dL_law_653 dL_law_654 (by decide +kernel) ?_
  refine law_ld 2 C0 hS hl (by omega) dL_law_655 dL_law_656 dL_law_657 dL_law_658 dL_law_659 (by decide +kernel) ?_
  refine zwrL (G := G) (va_runV (As := [.int (xs (i + 1)), .int (xs (i + 2))]) (rest := []) ⟨hx, hb, hml, hown, hts⟩ M4 (cwV 2 hts gL_law_X4_settle rfl rfl rfl (by decide +kernel) ⟨Nat.le_of_ble_eq_true rfl, Nat.le_of_ble_eq_true rfl⟩) (zPreV hG (va_recv (q0 := 0) (ci := 4) hG.1 (zP_l hP) rfl rfl) (zP_l hP)) rfl rfl hl.1 rfl (lv_room (Nat.le_of_ble_eq_true rfl)) dL_law_660 ⟨Nat.le_of_ble_eq_true rfl, Nat.le_of_ble_eq_true rfl⟩) hP hD hS (wX_map ..) (fun H locs hP hD hS => ?_)
  refine lv_aload_n hx hb dL_law_663 rfl (lv_at hl 2 rfl) ?_
  refine law_ld 1 C0 hS hl (by omega) dL_law_664 dL_law_665 dL_law_666 dL_law_667 dL_law_668 (by decide +kernel) ?_
  refine law_ld 2 C0 hS hl (by omega) dL_law_669 dL_law_670 dL_law_671 dL_law_672 dL_law_673 (by decide +kernel) ?_
  refine zwrR (G := G) (va_runV (As := [.int (xs (i + 1)), .int (xs (i + 2))]) (rest := [.int v]) ⟨hx, hb, hml, hown, hts⟩ M5 (cwV 2 hts gL_law_X5_settle rfl rfl rfl (by decide +kernel) ⟨Nat.le_of_ble_eq_true rfl, Nat.le_of_ble_eq_true rfl⟩) (zPreV hG (va_recv (q0 := 0) (ci := 5) hG.1 (zP_r hP) rfl rfl) (zP_r hP)) rfl rfl hl.1 rfl (lv_room (Nat.le_of_ble_eq_true rfl)) dL_law_674 ⟨Nat.le_of_ble_eq_true rfl, Nat.le_of_ble_eq_true rfl⟩) hP hD hS (wM_map ..) (fun H locs hP hD hS => ?_)
  refine lv_icmp_eq (tgt := 866) hx hb dL_law_677 (by decide) (fun _ => ?_) (fun h => absurd rfl h)
  exact kk _ _ _ _ _ _ _ _ _ _ _ _ _ hI' hP hD hS hl
set_option maxHeartbeats 4000000 in
set_option maxRecDepth 20000 in
theorem lc_ratio {p : Program} {l : Launch} {e : Env} {s : State} {mi : MethodId} {below : List Frame} {meth : Method} {c : Code} {Q : State → Prop} {b L : Nat} {xs : Nat → Int32} {G : zG} {ad : Nat → Nat → Nat} {m : Nat → Nat} {N i : Nat} {σ : Nat → Nat} {T : Nat → Nat → Nat} {o n : Nat} {f : Nat → Int32} {x : Nat → Nat} {len : Nat} {V : Nat → Nat → Nat} {ζ : Nat → Nat} {B : Nat → Int32} {H : Heap} {locs : List Loc} {ls : Array Slot} (C0 : LC p s mi c b L xs) (hG : zK G s) (hI : Iv N σ T o n V x len) (hN : N + 1 < 100000) (hi : i + 5 ≤ L) (hP : va_P G.1 vwCl (wX G ad σ T o n f x len ++ wM G m σ V ζ n x len B) H) (hD : va_D (lA s) (wX G ad σ T o n f x len ++ wM G m σ V ζ n x len B)) (hS : va_S (lA s) s.heap H locs) (hl : lv_has ls 4 (lL b i (ad 0 0) (m 0))) (kk : LK p l e s mi below meth c Q G ad m b (N + 1) i) : W p l e room_1 s mi #[Value.ref b] below meth c H locs 600000 7302250 Q (F0 mi 682 ls []) := by
  obtain ⟨hx, hb, hml, hown, hts, hX, hbl, hL⟩ := id C0
  obtain ⟨v, σ', T', o', n', f', x', len', V', ζ', B', hI', M4, M5⟩ := pr_ratio l G ad m f ζ B hI hN (zD_any (zD_l hD)) (zD_any (zD_r hD)) (xs (i + 1))
  refine lv_aload_n hx hb dL_law_682 rfl (lv_at hl 1 rfl) ?_
  refine law_ld 1 C0 hS hl (by omega) dL_law_683 dL_law_684 dL_law_685 dL_law_686 dL_law_687 (by decide +kernel) ?_
  refine zwrL (G := G) (va_runV (As := [.int (xs (i + 1))]) (rest := []) ⟨hx, hb, hml, hown, hts⟩ M4 (cwV 1 hts gL_law_X4_ratio rfl rfl rfl (by decide +kernel) ⟨Nat.le_of_ble_eq_true rfl, Nat.le_of_ble_eq_true rfl⟩) (zPreV hG (va_recv (q0 := 0) (ci := 4) hG.1 (zP_l hP) rfl rfl) (zP_l hP)) rfl rfl hl.1 rfl (lv_room (Nat.le_of_ble_eq_true rfl)) dL_law_688 ⟨Nat.le_of_ble_eq_true rfl, Nat.le_of_ble_eq_true rfl⟩) hP hD hS (wX_map ..) (fun H locs hP hD hS => ?_)
  refine lv_aload_n hx hb dL_law_691 rfl (lv_at hl 2 rfl) ?_
  refine law_ld 1 C0 hS hl (by omega) dL_law_692 dL_law_693 dL_law_694 dL_law_695 dL_law_696 (by decide +kernel) ?_
  refine zwrR (G := G) (va_runV (As := [.int (xs (i + 1))]) (rest := [.int v]) ⟨hx, hb, hml, hown, hts⟩ M5 (cwV 1 hts gL_law_X5_ratio rfl rfl rfl (by decide +kernel) ⟨Nat.le_of_ble_eq_true rfl, Nat.le_of_ble_eq_true rfl⟩) (zPreV hG (va_recv (q0 := 0) (ci := 5) hG.1 (zP_r hP) rfl rfl) (zP_r hP)) rfl rfl hl.1 rfl (lv_room (Nat.le_of_ble_eq_true rfl)) dL_law_697 ⟨Nat.le_of_ble_eq_true rfl, Nat.le_of_ble_eq_true rfl⟩) hP hD hS (wM_map ..) (fun H locs hP hD hS => ?_)
  refine lv_icmp_eq (tgt := 866) hx hb dL_law_700 (by decide) (fun _ => ?_) (fun h => absurd rfl h)
  exact kk _ _ _ _ _ _ _ _ _ _ _ _ _ hI' hP hD hS hl
set_option maxHeartbeats 4000000 in
set_option maxRecDepth 20000 in
theorem lc_publish {p : Program} {l : Launch} {e : Env} {s : State} {mi : MethodId} {below : List Frame} {meth : Method} {c : Code} {Q : State → Prop} {b L : Nat} {xs : Nat → Int32} {G : zG} {ad : Nat → Nat → Nat} {m : Nat → Nat} {N i : Nat} {σ : Nat → Nat} {T : Nat → Nat → Nat} {o n : Nat} {f : Nat → Int32} {x : Nat → Nat} {len : Nat} {V : Nat → Nat → Nat} {ζ : Nat → Nat} {B : Nat → Int32} {H : Heap} {locs : List Loc} {ls : Array Slot} (C0 : LC p s mi c b L xs) (hG : zK G s) (hI : Iv N σ T o n V x len) (hN : N + 1 < 100000) (hi : i + 5 ≤ L) (hP : va_P G.1 vwCl (wX G ad σ T o n f x len ++ wM G m σ V ζ n x len B) H) (hD : va_D (lA s) (wX G ad σ T o n f x len ++ wM G m σ V ζ n x len B)) (hS : va_S (lA s) s.heap H locs) (hl : lv_has ls 4 (lL b i (ad 0 0) (m 0))) (kk : LK p l e s mi below meth c Q G ad m b (N + 1) i) : W p l e room_1 s mi #[Value.ref b] below meth c H locs 600000 7302250 Q (F0 mi 705 ls []) := by
  obtain ⟨hx, hb, hml, hown, hts, hX, hbl, hL⟩ := id C0
  obtain ⟨v, σ', T', o', n', f', x', len', V', ζ', B', hI', M4, M5⟩ := pr_publish l G ad m f ζ B hI hN (zD_any (zD_l hD)) (zD_any (zD_r hD)) (xs (i + 1))
  refine lv_aload_n hx hb dL_law_705 rfl (lv_at hl 1 rfl) ?_
  refine law_ld 1 C0 hS hl (by omega) dL_law_706 dL_law_707 dL_law_708 dL_law_709 dL_law_710 (by decide +kernel) ?_
  refine zwrL (G := G) (va_runV (As := [.int (xs (i + 1))]) (rest := []) ⟨hx, hb, hml, hown, hts⟩ M4 (cwV 1 hts gL_law_X4_publish rfl rfl rfl (by decide +kernel) ⟨Nat.le_of_ble_eq_true rfl, Nat.le_of_ble_eq_true rfl⟩) (zPreV hG (va_recv (q0 := 0) (ci := 4) hG.1 (zP_l hP) rfl rfl) (zP_l hP)) rfl rfl hl.1 rfl (lv_room (Nat.le_of_ble_eq_true rfl)) dL_law_711 ⟨Nat.le_of_ble_eq_true rfl, Nat.le_of_ble_eq_true rfl⟩) hP hD hS (wX_map ..) (fun H locs hP hD hS => ?_)
  refine lv_aload_n hx hb dL_law_714 rfl (lv_at hl 2 rfl) ?_
  refine law_ld 1 C0 hS hl (by omega) dL_law_715 dL_law_716 dL_law_717 dL_law_718 dL_law_719 (by decide +kernel) ?_
  refine zwrR (G := G) (va_runV (As := [.int (xs (i + 1))]) (rest := [.int v]) ⟨hx, hb, hml, hown, hts⟩ M5 (cwV 1 hts gL_law_X5_publish rfl rfl rfl (by decide +kernel) ⟨Nat.le_of_ble_eq_true rfl, Nat.le_of_ble_eq_true rfl⟩) (zPreV hG (va_recv (q0 := 0) (ci := 5) hG.1 (zP_r hP) rfl rfl) (zP_r hP)) rfl rfl hl.1 rfl (lv_room (Nat.le_of_ble_eq_true rfl)) dL_law_720 ⟨Nat.le_of_ble_eq_true rfl, Nat.le_of_ble_eq_true rfl⟩) hP hD hS (wM_map ..) (fun H locs hP hD hS => ?_)
  refine lv_icmp_eq (tgt := 866) hx hb dL_law_723 (by decide) (fun _ => ?_) (fun h => absurd rfl h)
  exact kk _ _ _ _ _ _ _ _ _ _ _ _ _ hI' hP hD hS hl
set_option maxHeartbeats 4000000 in
set_option maxRecDepth 20000 in
theorem lc_scale {p : Program} {l : Launch} {e : Env} {s : State} {mi : MethodId} {below : List Frame} {meth : Method} {c : Code} {Q : State → Prop} {b L : Nat} {xs : Nat → Int32} {G : zG} {ad : Nat → Nat → Nat} {m : Nat → Nat} {N i : Nat} {σ : Nat → Nat} {T : Nat → Nat → Nat} {o n : Nat} {f : Nat → Int32} {x : Nat → Nat} {len : Nat} {V : Nat → Nat → Nat} {ζ : Nat → Nat} {B : Nat → Int32} {H : Heap} {locs : List Loc} {ls : Array Slot} (C0 : LC p s mi c b L xs) (hG : zK G s) (hI : Iv N σ T o n V x len) (hN : N + 1 < 100000) (hi : i + 5 ≤ L) (hP : va_P G.1 vwCl (wX G ad σ T o n f x len ++ wM G m σ V ζ n x len B) H) (hD : va_D (lA s) (wX G ad σ T o n f x len ++ wM G m σ V ζ n x len B)) (hS : va_S (lA s) s.heap H locs) (hl : lv_has ls 4 (lL b i (ad 0 0) (m 0))) (kk : LK p l e s mi below meth c Q G ad m b (N + 1) i) : W p l e room_1 s mi #[Value.ref b] below meth c H locs 600000 7302250 Q (F0 mi 728 ls []) := by
  obtain ⟨hx, hb, hml, hown, hts, hX, hbl, hL⟩ := id C0
  obtain ⟨v, σ', T', o', n', f', x', len', V', ζ', B', hI', M4, M5⟩ := pr_scale l G ad m f ζ B hI hN (zD_any (zD_l hD)) (zD_any (zD_r hD)) (xs (i + 1)) (xs (i + 2))
  refine lv_aload_n hx hb dL_law_728 rfl (lv_at hl 1 rfl) ?_
  refine law_ld 1 C0 hS hl (by omega) dL_law_729 dL_law_730 dL_law_731 dL_law_732 dL_law_733 (by decide +kernel) ?_
  refine law_ld 2 C0 hS hl (by omega) dL_law_734 dL_law_735 dL_law_736 dL_law_737 dL_law_738 (by decide +kernel) ?_
  refine zwrL (G := G) (va_runV (As := [.int (xs (i + 1)), .int (xs (i + 2))]) (rest := []) ⟨hx, hb, hml, hown, hts⟩ M4 (cwV 2 hts gL_law_X4_scale rfl rfl rfl (by decide +kernel) ⟨Nat.le_of_ble_eq_true rfl, Nat.le_of_ble_eq_true rfl⟩) (zPreV hG (va_recv (q0 := 0) (ci := 4) hG.1 (zP_l hP) rfl rfl) (zP_l hP)) rfl rfl hl.1 rfl (lv_room (Nat.le_of_ble_eq_true rfl)) dL_law_739 ⟨Nat.le_of_ble_eq_true rfl, Nat.le_of_ble_eq_true rfl⟩) hP hD hS (wX_map ..) (fun H locs hP hD hS => ?_)
  refine lv_aload_n hx hb dL_law_742 rfl (lv_at hl 2 rfl) ?_
  refine law_ld 1 C0 hS hl (by omega) dL_law_743 dL_law_744 dL_law_745 dL_law_746 dL_law_747 (by decide +kernel) ?_
  refine law_ld 2 C0 hS hl (by omega) dL_law_748 dL_law_749 dL_law_750 dL_law_751 dL_law_752 (by decide +kernel) ?_
  refine zwrR (G := G) (va_runV (As := [.int (xs (i + 1)), .int (xs (i + 2))]) (rest := [.int v]) ⟨hx, hb, hml, hown, hts⟩ M5 (cwV 2 hts gL_law_X5_scale rfl rfl rfl (by decide +kernel) ⟨Nat.le_of_ble_eq_true rfl, Nat.le_of_ble_eq_true rfl⟩) (zPreV hG (va_recv (q0 := 0) (ci := 5) hG.1 (zP_r hP) rfl rfl) (zP_r hP)) rfl rfl hl.1 rfl (lv_room (Nat.le_of_ble_eq_true rfl)) dL_law_753 ⟨Nat.le_of_ble_eq_true rfl, Nat.le_of_ble_eq_true rfl⟩) hP hD hS (wM_map ..) (fun H locs hP hD hS => ?_)
  refine lv_icmp_eq (tgt := 866) hx hb dL_law_756 (by decide) (fun _ => ?_) (fun h => absurd rfl h)
  exact kk _ _ _ _ _ _ _ _ _ _ _ _ _ hI' hP hD hS hl
set_option maxHeartbeats 4000000 in
set_option maxRecDepth 20000 in
theorem lc_stretched {p : Program} {l : Launch} {e : Env} {s : State} {mi : MethodId} {below : List Frame} {meth : Method} {c : Code} {Q : State → Prop} {b L : Nat} {xs : Nat → Int32} {G : zG} {ad : Nat → Nat → Nat} {m : Nat → Nat} {N i : Nat} {σ : Nat → Nat} {T : Nat → Nat → Nat} {o n : Nat} {f : Nat → Int32} {x : Nat → Nat} {len : Nat} {V : Nat → Nat → Nat} {ζ : Nat → Nat} {B : Nat → Int32} {H : Heap} {locs : List Loc} {ls : Array Slot} (C0 : LC p s mi c b L xs) (hG : zK G s) (hI : Iv N σ T o n V x len) (hN : N + 1 < 100000) (hi : i + 5 ≤ L) (hP : va_P G.1 vwCl (wX G ad σ T o n f x len ++ wM G m σ V ζ n x len B) H) (hD : va_D (lA s) (wX G ad σ T o n f x len ++ wM G m σ V ζ n x len B)) (hS : va_S (lA s) s.heap H locs) (hl : lv_has ls 4 (lL b i (ad 0 0) (m 0))) (kk : LK p l e s mi below meth c Q G ad m b (N + 1) i) : W p l e room_1 s mi #[Value.ref b] below meth c H locs 600000 7302250 Q (F0 mi 761 ls []) := by
  obtain ⟨hx, hb, hml, hown, hts, hX, hbl, hL⟩ := id C0
  obtain ⟨v, σ', T', o', n', f', x', len', V', ζ', B', hI', M4, M5⟩ := pr_stretched l G ad m f ζ B hI hN (zD_any (zD_l hD)) (zD_any (zD_r hD)) (xs (i + 1)) (xs (i + 2))
  refine lv_aload_n hx hb dL_law_761 rfl (lv_at hl 1 rfl) ?_
  refine law_ld 1 C0 hS hl (by omega) dL_law_762 dL_law_763 dL_law_764 dL_law_765 dL_law_766 (by decide +kernel) ?_
  refine law_ld 2 C0 hS hl (by omega) dL_law_767 dL_law_768 dL_law_769 dL_law_770 dL_law_771 (by decide +kernel) ?_
  refine zwrL (G := G) (va_runV (As := [.int (xs (i + 1)), .int (xs (i + 2))]) (rest := []) ⟨hx, hb, hml, hown, hts⟩ M4 (cwV 2 hts gL_law_X4_stretched rfl rfl rfl (by decide +kernel) ⟨Nat.le_of_ble_eq_true rfl, Nat.le_of_ble_eq_true rfl⟩) (zPreV hG (va_recv (q0 := 0) (ci := 4) hG.1 (zP_l hP) rfl rfl) (zP_l hP)) rfl rfl hl.1 rfl (lv_room (Nat.le_of_ble_eq_true rfl)) dL_law_772 ⟨Nat.le_of_ble_eq_true rfl, Nat.le_of_ble_eq_true rfl⟩) hP hD hS (wX_map ..) (fun H locs hP hD hS => ?_)
  refine lv_aload_n hx hb dL_law_775 rfl (lv_at hl 2 rfl) ?_
  refine law_ld 1 C0 hS hl (by omega) dL_law_776 dL_law_777 dL_law_778 dL_law_779 dL_law_780 (by decide +kernel) ?_
  refine law_ld 2 C0 hS hl (by omega) dL_law_781 dL_law_782 dL_law_783 dL_law_784 dL_law_785 (by decide +kernel) ?_
  refine zwrR (G := G) (va_runV (As := [.int (xs (i + 1)), .int (xs (i + 2))]) (rest := [.int v]) ⟨hx, hb, hml, hown, hts⟩ M5 (cwV 2 hts gL_law_X5_stretched rfl rfl rfl (by decide +kernel) ⟨Nat.le_of_ble_eq_true rfl, Nat.le_of_ble_eq_true rfl⟩) (zPreV hG (va_recv (q0 := 0) (ci := 5) hG.1 (zP_r hP) rfl rfl) (zP_r hP)) rfl rfl hl.1 rfl (lv_room (Nat.le_of_ble_eq_true rfl)) dL_law_786 ⟨Nat.le_of_ble_eq_true rfl, Nat.le_of_ble_eq_true rfl⟩) hP hD hS (wM_map ..) (fun H locs hP hD hS => ?_)
  refine lv_icmp_eq (tgt := 866) hx hb dL_law_789 (by decide) (fun _ => ?_) (fun h => absurd rfl h)
  exact kk _ _ _ _ _ _ _ _ _ _ _ _ _ hI' hP hD hS hl
set_option maxHeartbeats 4000000 in
set_option maxRecDepth 20000 in
theorem lc_type {p : Program} {l : Launch} {e : Env} {s : State} {mi : MethodId} {below : List Frame} {meth : Method} {c : Code} {Q : State → Prop} {b L : Nat} {xs : Nat → Int32} {G : zG} {ad : Nat → Nat → Nat} {m : Nat → Nat} {N i : Nat} {σ : Nat → Nat} {T : Nat → Nat → Nat} {o n : Nat} {f : Nat → Int32} {x : Nat → Nat} {len : Nat} {V : Nat → Nat → Nat} {ζ : Nat → Nat} {B : Nat → Int32} {H : Heap} {locs : List Loc} {ls : Array Slot} (C0 : LC p s mi c b L xs) (hG : zK G s) (hI : Iv N σ T o n V x len) (hN : N + 1 < 100000) (hi : i + 5 ≤ L) (hP : va_P G.1 vwCl (wX G ad σ T o n f x len ++ wM G m σ V ζ n x len B) H) (hD : va_D (lA s) (wX G ad σ T o n f x len ++ wM G m σ V ζ n x len B)) (hS : va_S (lA s) s.heap H locs) (hl : lv_has ls 4 (lL b i (ad 0 0) (m 0))) (kk : LK p l e s mi below meth c Q G ad m b (N + 1) i) : W p l e room_1 s mi #[Value.ref b] below meth c H locs 600000 7302250 Q (F0 mi 794 ls []) := by
  obtain ⟨hx, hb, hml, hown, hts, hX, hbl, hL⟩ := id C0
  obtain ⟨v, σ', T', o', n', f', x', len', V', ζ', B', hI', M4, M5⟩ := pr_type l G ad m f ζ B hI hN (zD_any (zD_l hD)) (zD_any (zD_r hD)) (xs (i + 1))
  refine lv_aload_n hx hb dL_law_794 rfl (lv_at hl 1 rfl) ?_
  refine law_ld 1 C0 hS hl (by omega) dL_law_795 dL_law_796 dL_law_797 dL_law_798 dL_law_799 (by decide +kernel) ?_
  refine zwrL (G := G) (va_runV (As := [.int (xs (i + 1))]) (rest := []) ⟨hx, hb, hml, hown, hts⟩ M4 (cwV 1 hts gL_law_X4_type rfl rfl rfl (by decide +kernel) ⟨Nat.le_of_ble_eq_true rfl, Nat.le_of_ble_eq_true rfl⟩) (zPreV hG (va_recv (q0 := 0) (ci := 4) hG.1 (zP_l hP) rfl rfl) (zP_l hP)) rfl rfl hl.1 rfl (lv_room (Nat.le_of_ble_eq_true rfl)) dL_law_800 ⟨Nat.le_of_ble_eq_true rfl, Nat.le_of_ble_eq_true rfl⟩) hP hD hS (wX_map ..) (fun H locs hP hD hS => ?_)
  refine lv_aload_n hx hb dL_law_803 rfl (lv_at hl 2 rfl) ?_
  refine law_ld 1 C0 hS hl (by omega) dL_law_804 dL_law_805 dL_law_806 dL_law_807 dL_law_808 (by decide +kernel) ?_
  refine zwrR (G := G) (va_runV (As := [.int (xs (i + 1))]) (rest := [.int v]) ⟨hx, hb, hml, hown, hts⟩ M5 (cwV 1 hts gL_law_X5_type rfl rfl rfl (by decide +kernel) ⟨Nat.le_of_ble_eq_true rfl, Nat.le_of_ble_eq_true rfl⟩) (zPreV hG (va_recv (q0 := 0) (ci := 5) hG.1 (zP_r hP) rfl rfl) (zP_r hP)) rfl rfl hl.1 rfl (lv_room (Nat.le_of_ble_eq_true rfl)) dL_law_809 ⟨Nat.le_of_ble_eq_true rfl, Nat.le_of_ble_eq_true rfl⟩) hP hD hS (wM_map ..) (fun H locs hP hD hS => ?_)
  refine lv_icmp_eq (tgt := 866) hx hb dL_law_812 (by decide) (fun _ => ?_) (fun h => absurd rfl h)
  exact kk _ _ _ _ _ _ _ _ _ _ _ _ _ hI' hP hD hS hl
set_option maxHeartbeats 4000000 in
set_option maxRecDepth 20000 in
theorem lc_clearText {p : Program} {l : Launch} {e : Env} {s : State} {mi : MethodId} {below : List Frame} {meth : Method} {c : Code} {Q : State → Prop} {b L : Nat} {xs : Nat → Int32} {G : zG} {ad : Nat → Nat → Nat} {m : Nat → Nat} {N i : Nat} {σ : Nat → Nat} {T : Nat → Nat → Nat} {o n : Nat} {f : Nat → Int32} {x : Nat → Nat} {len : Nat} {V : Nat → Nat → Nat} {ζ : Nat → Nat} {B : Nat → Int32} {H : Heap} {locs : List Loc} {ls : Array Slot} (C0 : LC p s mi c b L xs) (hG : zK G s) (hI : Iv N σ T o n V x len) (hN : N + 1 < 100000) (hi : i + 5 ≤ L) (hP : va_P G.1 vwCl (wX G ad σ T o n f x len ++ wM G m σ V ζ n x len B) H) (hD : va_D (lA s) (wX G ad σ T o n f x len ++ wM G m σ V ζ n x len B)) (hS : va_S (lA s) s.heap H locs) (hl : lv_has ls 4 (lL b i (ad 0 0) (m 0))) (kk : LK p l e s mi below meth c Q G ad m b (N + 1) i) : W p l e room_1 s mi #[Value.ref b] below meth c H locs 600000 7302250 Q (F0 mi 817 ls []) := by
  obtain ⟨hx, hb, hml, hown, hts, hX, hbl, hL⟩ := id C0
  obtain ⟨v, σ', T', o', n', f', x', len', V', ζ', B', hI', M4, M5⟩ := pr_clearText l G ad m f ζ B hI hN (zD_any (zD_l hD)) (zD_any (zD_r hD)) 
  refine lv_aload_n hx hb dL_law_817 rfl (lv_at hl 1 rfl) ?_
  refine zwrL (G := G) (va_runV (As := []) (rest := []) ⟨hx, hb, hml, hown, hts⟩ M4 (cwV 0 hts gL_law_X4_clearText rfl rfl rfl (by decide +kernel) ⟨Nat.le_of_ble_eq_true rfl, Nat.le_of_ble_eq_true rfl⟩) (zPreV hG (va_recv (q0 := 0) (ci := 4) hG.1 (zP_l hP) rfl rfl) (zP_l hP)) rfl rfl hl.1 rfl (lv_room (Nat.le_of_ble_eq_true rfl)) dL_law_818 ⟨Nat.le_of_ble_eq_true rfl, Nat.le_of_ble_eq_true rfl⟩) hP hD hS (wX_map ..) (fun H locs hP hD hS => ?_)
  refine lv_aload_n hx hb dL_law_821 rfl (lv_at hl 2 rfl) ?_
  refine zwrR (G := G) (va_runV (As := []) (rest := [.int v]) ⟨hx, hb, hml, hown, hts⟩ M5 (cwV 0 hts gL_law_X5_clearText rfl rfl rfl (by decide +kernel) ⟨Nat.le_of_ble_eq_true rfl, Nat.le_of_ble_eq_true rfl⟩) (zPreV hG (va_recv (q0 := 0) (ci := 5) hG.1 (zP_r hP) rfl rfl) (zP_r hP)) rfl rfl hl.1 rfl (lv_room (Nat.le_of_ble_eq_true rfl)) dL_law_822 ⟨Nat.le_of_ble_eq_true rfl, Nat.le_of_ble_eq_true rfl⟩) hP hD hS (wM_map ..) (fun H locs hP hD hS => ?_)
  refine lv_icmp_eq (tgt := 866) hx hb dL_law_825 (by decide) (fun _ => ?_) (fun h => absurd rfl h)
  exact kk _ _ _ _ _ _ _ _ _ _ _ _ _ hI' hP hD hS hl
set_option maxHeartbeats 4000000 in
set_option maxRecDepth 20000 in
theorem lc_fault {p : Program} {l : Launch} {e : Env} {s : State} {mi : MethodId} {below : List Frame} {meth : Method} {c : Code} {Q : State → Prop} {b L : Nat} {xs : Nat → Int32} {G : zG} {ad : Nat → Nat → Nat} {m : Nat → Nat} {N i : Nat} {σ : Nat → Nat} {T : Nat → Nat → Nat} {o n : Nat} {f : Nat → Int32} {x : Nat → Nat} {len : Nat} {V : Nat → Nat → Nat} {ζ : Nat → Nat} {B : Nat → Int32} {H : Heap} {locs : List Loc} {ls : Array Slot} (C0 : LC p s mi c b L xs) (hG : zK G s) (hI : Iv N σ T o n V x len) (hN : N + 1 < 100000) (hi : i + 5 ≤ L) (hP : va_P G.1 vwCl (wX G ad σ T o n f x len ++ wM G m σ V ζ n x len B) H) (hD : va_D (lA s) (wX G ad σ T o n f x len ++ wM G m σ V ζ n x len B)) (hS : va_S (lA s) s.heap H locs) (hl : lv_has ls 4 (lL b i (ad 0 0) (m 0))) (kk : LK p l e s mi below meth c Q G ad m b (N + 1) i) : W p l e room_1 s mi #[Value.ref b] below meth c H locs 600000 7302250 Q (F0 mi 830 ls []) := by
  obtain ⟨hx, hb, hml, hown, hts, hX, hbl, hL⟩ := id C0
  obtain ⟨v, σ', T', o', n', f', x', len', V', hI', M4, M5, hw⟩ := pr_fault l G ad m f ζ B hI hN (zD_any (zD_l hD)) (zD_any (zD_r hD)) 
  refine lv_aload_n hx hb dL_law_830 rfl (lv_at hl 1 rfl) ?_
  refine zwrL (G := G) (va_runV (As := []) (rest := []) ⟨hx, hb, hml, hown, hts⟩ M4 (cwV 0 hts gL_law_X4_fault rfl rfl rfl (by decide +kernel) ⟨Nat.le_of_ble_eq_true rfl, Nat.le_of_ble_eq_true rfl⟩) (zPreV hG (va_recv (q0 := 0) (ci := 4) hG.1 (zP_l hP) rfl rfl) (zP_l hP)) rfl rfl hl.1 rfl (lv_room (Nat.le_of_ble_eq_true rfl)) dL_law_831 ⟨Nat.le_of_ble_eq_true rfl, Nat.le_of_ble_eq_true rfl⟩) hP hD hS (wX_map ..) (fun H locs hP hD hS => ?_)
  refine lv_aload_n hx hb dL_law_834 rfl (lv_at hl 2 rfl) ?_
  refine zrdV (G := G) (As := []) ⟨hx, hb, hml, hown, hts⟩ M5 (cwV 0 hts gL_law_X5_fault rfl rfl rfl (by decide +kernel) ⟨Nat.le_of_ble_eq_true rfl, Nat.le_of_ble_eq_true rfl⟩) hG (va_recv (q0 := 0) (ci := 5) hG.1 (zP_r hP) rfl rfl) (zP_r hP) rfl rfl hl.1 dL_law_835 (Nat.le_of_ble_eq_true rfl) ⟨Nat.le_of_ble_eq_true rfl, Nat.le_of_ble_eq_true rfl⟩ ?_
  rw [hw] at hP hD
  refine lv_icmp_eq (tgt := 866) hx hb dL_law_838 (by decide) (fun _ => ?_) (fun h => absurd rfl h)
  exact kk _ _ _ _ _ _ _ _ _ _ _ _ _ hI' hP hD hS hl
set_option maxHeartbeats 4000000 in
set_option maxRecDepth 20000 in
theorem lc_read {p : Program} {l : Launch} {e : Env} {s : State} {mi : MethodId} {below : List Frame} {meth : Method} {c : Code} {Q : State → Prop} {b L : Nat} {xs : Nat → Int32} {G : zG} {ad : Nat → Nat → Nat} {m : Nat → Nat} {N i : Nat} {σ : Nat → Nat} {T : Nat → Nat → Nat} {o n : Nat} {f : Nat → Int32} {x : Nat → Nat} {len : Nat} {V : Nat → Nat → Nat} {ζ : Nat → Nat} {B : Nat → Int32} {H : Heap} {locs : List Loc} {ls : Array Slot} (C0 : LC p s mi c b L xs) (hG : zK G s) (hI : Iv N σ T o n V x len) (hN : N + 1 < 100000) (hi : i + 5 ≤ L) (hP : va_P G.1 vwCl (wX G ad σ T o n f x len ++ wM G m σ V ζ n x len B) H) (hD : va_D (lA s) (wX G ad σ T o n f x len ++ wM G m σ V ζ n x len B)) (hS : va_S (lA s) s.heap H locs) (hl : lv_has ls 4 (lL b i (ad 0 0) (m 0))) (kk : LK p l e s mi below meth c Q G ad m b (N + 1) i) : W p l e room_1 s mi #[Value.ref b] below meth c H locs 600000 7302250 Q (F0 mi 843 ls []) := by
  obtain ⟨hx, hb, hml, hown, hts, hX, hbl, hL⟩ := id C0
  obtain ⟨v, σ', T', o', n', f', x', len', V', ζ', B', hI', M4, M5⟩ := pr_read l G ad m f ζ B hI hN (zD_any (zD_l hD)) (zD_any (zD_r hD)) (xs (i + 1))
  refine lv_aload_n hx hb dL_law_843 rfl (lv_at hl 1 rfl) ?_
  refine law_ld 1 C0 hS hl (by omega) dL_law_844 dL_law_845 dL_law_846 dL_law_847 dL_law_848 (by decide +kernel) ?_
  refine zwrL (G := G) (va_runV (As := [.int (xs (i + 1))]) (rest := []) ⟨hx, hb, hml, hown, hts⟩ M4 (cwV 1 hts gL_law_X4_read rfl rfl rfl (by decide +kernel) ⟨Nat.le_of_ble_eq_true rfl, Nat.le_of_ble_eq_true rfl⟩) (zPreV hG (va_recv (q0 := 0) (ci := 4) hG.1 (zP_l hP) rfl rfl) (zP_l hP)) rfl rfl hl.1 rfl (lv_room (Nat.le_of_ble_eq_true rfl)) dL_law_849 ⟨Nat.le_of_ble_eq_true rfl, Nat.le_of_ble_eq_true rfl⟩) hP hD hS (wX_map ..) (fun H locs hP hD hS => ?_)
  refine lv_aload_n hx hb dL_law_852 rfl (lv_at hl 2 rfl) ?_
  refine law_ld 1 C0 hS hl (by omega) dL_law_853 dL_law_854 dL_law_855 dL_law_856 dL_law_857 (by decide +kernel) ?_
  refine zwrR (G := G) (va_runV (As := [.int (xs (i + 1))]) (rest := [.int v]) ⟨hx, hb, hml, hown, hts⟩ M5 (cwV 1 hts gL_law_X5_read rfl rfl rfl (by decide +kernel) ⟨Nat.le_of_ble_eq_true rfl, Nat.le_of_ble_eq_true rfl⟩) (zPreV hG (va_recv (q0 := 0) (ci := 5) hG.1 (zP_r hP) rfl rfl) (zP_r hP)) rfl rfl hl.1 rfl (lv_room (Nat.le_of_ble_eq_true rfl)) dL_law_858 ⟨Nat.le_of_ble_eq_true rfl, Nat.le_of_ble_eq_true rfl⟩) hP hD hS (wM_map ..) (fun H locs hP hD hS => ?_)
  refine lv_icmp_eq (tgt := 866) hx hb dL_law_861 (by decide) (fun _ => ?_) (fun h => absurd rfl h)
  exact kk _ _ _ _ _ _ _ _ _ _ _ _ _ hI' hP hD hS hl
