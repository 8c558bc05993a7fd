set_option maxRecDepth 100000 in
set_option maxHeartbeats 4000000 in
theorem law_strew {X : Fx} {l : Launch} {D : va_G} {z : Nat × Nat × Nat} (O : Ok X l D z cL_law RL wsL_law 4 room_1 false) {bb K : Nat} {xs : Nat → Int32} (S : SX X bb K xs) (hK : K ≤ 2048) {a b : Nat → Nat} {P : PS} {J : JS} {Q : QS} {i Bd : Nat} (hI : IV Bd P) (hB : Bd < 1073741824) (hq : RQ Q P) (hi : 4 * i + 4 ≤ K)
    (kk : ∀ (P' : PS) (J' : JS) (Q' : QS), IV (Bd + 14256) P' → RQ Q' P' → G X 90 11467 850 [(0, .ref bb), (1, .ref (a 0)), (2, .ref (b 0)), (3, .int (nI (4 * i)))] [] (wX D a P' J' ++ wM D b P' Q')) : G X 90 11467 144 [(0, .ref bb), (1, .ref (a 0)), (2, .ref (b 0)), (3, .int (nI (4 * i)))] [] (wX D a P J ++ wM D b P Q) := by
  have hk31 : K < 2147483648 := by omega
  obtain ⟨ans, P', hI', hX, hM⟩ := ST_strew l D z hI hB (xs (4 * i + 1)) (xs (4 * i + 2)) (xs (4 * i + 3))
  refine g_aload_n O dL_law_144 1 rfl rfl ?_
  refine g_aload_n O dL_law_145 0 rfl rfl ?_
  refine g_iload_n O dL_law_146 3 rfl rfl ?_
  refine g_iconst (x := (nI 1)) O dL_law_147 (by decide +kernel) ?_
  refine g_iaddN O dL_law_148 ?_
  refine g_sld O S (by omega) hk31 dL_law_149 ?_
  refine g_aload_n O dL_law_150 0 rfl rfl ?_
  refine g_iload_n O dL_law_151 3 rfl rfl ?_
  refine g_iconst (x := (nI 2)) O dL_law_152 (by decide +kernel) ?_
  refine g_iaddN O dL_law_153 ?_
  refine g_sld O S (by omega) hk31 dL_law_154 ?_
  refine g_aload_n O dL_law_155 0 rfl rfl ?_
  refine g_iload_n O dL_law_156 3 rfl rfl ?_
  refine g_iconst (x := (nI 3)) O dL_law_157 (by decide +kernel) ?_
  refine g_iaddN O dL_law_158 ?_
  refine g_sld O S (by omega) hk31 dL_law_159 ?_
  refine g_callL (As := [.int (xs (4 * i + 1)), .int (xs (4 * i + 2)), .int (xs (4 * i + 3))]) (Aw := wX D a P J) (Bw := wM D b P Q) O (hX a J) gL_law_X8_strew rfl rfl rfl 3 (by decide +kernel) (by decide) (by decide) rfl rfl rfl rfl rfl (Nat.le_of_ble_eq_true rfl) dL_law_160 (fun r9 w9 hp => ?_)
  obtain ⟨rfl, J', rfl⟩ := hp
  refine g_eq (st' := [.int ans]) (ws' := (wM D b P Q ++ wX D a P' J')) rfl rfl rfl ?_
  refine g_aload_n O dL_law_163 2 rfl rfl ?_
  refine g_aload_n O dL_law_164 0 rfl rfl ?_
  refine g_iload_n O dL_law_165 3 rfl rfl ?_
  refine g_iconst (x := (nI 1)) O dL_law_166 (by decide +kernel) ?_
  refine g_iaddN O dL_law_167 ?_
  refine g_sld O S (by omega) hk31 dL_law_168 ?_
  refine g_aload_n O dL_law_169 0 rfl rfl ?_
  refine g_iload_n O dL_law_170 3 rfl rfl ?_
  refine g_iconst (x := (nI 2)) O dL_law_171 (by decide +kernel) ?_
  refine g_iaddN O dL_law_172 ?_
  refine g_sld O S (by omega) hk31 dL_law_173 ?_
  refine g_aload_n O dL_law_174 0 rfl rfl ?_
  refine g_iload_n O dL_law_175 3 rfl rfl ?_
  refine g_iconst (x := (nI 3)) O dL_law_176 (by decide +kernel) ?_
  refine g_iaddN O dL_law_177 ?_
  refine g_sld O S (by omega) hk31 dL_law_178 ?_
  refine g_callL (As := [.int (xs (4 * i + 1)), .int (xs (4 * i + 2)), .int (xs (4 * i + 3))]) (Aw := wM D b P Q) (Bw := wX D a P' J') O (hM b Q hq) gL_law_X9_strew rfl rfl rfl 3 (by decide +kernel) (by decide) (by decide) rfl rfl rfl rfl rfl (Nat.le_of_ble_eq_true rfl) dL_law_179 (fun r9 w9 hp => ?_)
  obtain ⟨rfl, Q', hq', rfl⟩ := hp
  refine g_eq (st' := [.int ans, .int ans]) (ws' := (wX D a P' J' ++ wM D b P' Q')) rfl rfl rfl ?_
  refine g_icmp_eq (tgt := 850) O dL_law_182 (by decide) (fun _ => ?_) (fun h => absurd rfl h)
  exact kk P' J' Q' hI' hq'
set_option maxRecDepth 100000 in
set_option maxHeartbeats 4000000 in
theorem law_sweep {X : Fx} {l : Launch} {D : va_G} {z : Nat × Nat × Nat} (O : Ok X l D z cL_law RL wsL_law 4 room_1 false) {bb K : Nat} {xs : Nat → Int32} (S : SX X bb K xs) (hK : K ≤ 2048) {a b : Nat → Nat} {P : PS} {J : JS} {Q : QS} {i Bd : Nat} (hI : IV Bd P) (hB : Bd < 1073741824) (hq : RQ Q P) (hi : 4 * i + 4 ≤ K)
    (kk : ∀ (P' : PS) (J' : JS) (Q' : QS), IV (Bd + 14256) P' → RQ Q' P' → G X 90 11467 850 [(0, .ref bb), (1, .ref (a 0)), (2, .ref (b 0)), (3, .int (nI (4 * i)))] [] (wX D a P' J' ++ wM D b P' Q')) : G X 90 11467 187 [(0, .ref bb), (1, .ref (a 0)), (2, .ref (b 0)), (3, .int (nI (4 * i)))] [] (wX D a P J ++ wM D b P Q) := by
  have hk31 : K < 2147483648 := by omega
  obtain ⟨ans, P', hI', hX, hM⟩ := ST_sweep l D z hI hB (xs (4 * i + 1))
  refine g_aload_n O dL_law_187 1 rfl rfl ?_
  refine g_aload_n O dL_law_188 0 rfl rfl ?_
  refine g_iload_n O dL_law_189 3 rfl rfl ?_
  refine g_iconst (x := (nI 1)) O dL_law_190 (by decide +kernel) ?_
  refine g_iaddN O dL_law_191 ?_
  refine g_sld O S (by omega) hk31 dL_law_192 ?_
  refine g_callL (As := [.int (xs (4 * i + 1))]) (Aw := wX D a P J) (Bw := wM D b P Q) O (hX a J) gL_law_X8_sweep rfl rfl rfl 1 (by decide +kernel) (by decide) (by decide) rfl rfl rfl rfl rfl (Nat.le_of_ble_eq_true rfl) dL_law_193 (fun r9 w9 hp => ?_)
  obtain ⟨rfl, J', rfl⟩ := hp
  refine g_eq (st' := [.int ans]) (ws' := (wM D b P Q ++ wX D a P' J')) rfl rfl rfl ?_
  refine g_aload_n O dL_law_196 2 rfl rfl ?_
  refine g_aload_n O dL_law_197 0 rfl rfl ?_
  refine g_iload_n O dL_law_198 3 rfl rfl ?_
  refine g_iconst (x := (nI 1)) O dL_law_199 (by decide +kernel) ?_
  refine g_iaddN O dL_law_200 ?_
  refine g_sld O S (by omega) hk31 dL_law_201 ?_
  refine g_callL (As := [.int (xs (4 * i + 1))]) (Aw := wM D b P Q) (Bw := wX D a P' J') O (hM b Q hq) gL_law_X9_sweep rfl rfl rfl 1 (by decide +kernel) (by decide) (by decide) rfl rfl rfl rfl rfl (Nat.le_of_ble_eq_true rfl) dL_law_202 (fun r9 w9 hp => ?_)
  obtain ⟨rfl, Q', hq', rfl⟩ := hp
  refine g_eq (st' := [.int ans, .int ans]) (ws' := (wX D a P' J' ++ wM D b P' Q')) rfl rfl rfl ?_
  refine g_icmp_eq (tgt := 850) O dL_law_205 (by decide) (fun _ => ?_) (fun h => absurd rfl h)
  exact kk P' J' Q' hI' hq'
set_option maxRecDepth 100000 in
set_option maxHeartbeats 4000000 in
theorem law_clamp {X : Fx} {l : Launch} {D : va_G} {z : Nat × Nat × Nat} (O : Ok X l D z cL_law RL wsL_law 4 room_1 false) {bb K : Nat} {xs : Nat → Int32} (S : SX X bb K xs) (hK : K ≤ 2048) {a b : Nat → Nat} {P : PS} {J : JS} {Q : QS} {i Bd : Nat} (hI : IV Bd P) (hB : Bd < 1073741824) (hq : RQ Q P) (hi : 4 * i + 4 ≤ K)
    (kk : ∀ (P' : PS) (J' : JS) (Q' : QS), IV (Bd + 14256) P' → RQ Q' P' → G X 90 11467 850 [(0, .ref bb), (1, .ref (a 0)), (2, .ref (b 0)), (3, .int (nI (4 * i)))] [] (wX D a P' J' ++ wM D b P' Q')) : G X 90 11467 210 [(0, .ref bb), (1, .ref (a 0)), (2, .ref (b 0)), (3, .int (nI (4 * i)))] [] (wX D a P J ++ wM D b P Q) := by
  have hk31 : K < 2147483648 := by omega
  obtain ⟨ans, P', hI', hX, hM⟩ := ST_clamp l D z hI hB (xs (4 * i + 1)) (xs (4 * i + 2))
  refine g_aload_n O dL_law_210 1 rfl rfl ?_
  refine g_aload_n O dL_law_211 0 rfl rfl ?_
  refine g_iload_n O dL_law_212 3 rfl rfl ?_
  refine g_iconst (x := (nI 1)) O dL_law_213 (by decide +kernel) ?_
  refine g_iaddN O dL_law_214 ?_
  refine g_sld O S (by omega) hk31 dL_law_215 ?_
  refine g_aload_n O dL_law_216 0 rfl rfl ?_
  refine g_iload_n O dL_law_217 3 rfl rfl ?_
  refine g_iconst (x := (nI 2)) O dL_law_218 (by decide +kernel) ?_
  refine g_iaddN O dL_law_219 ?_
  refine g_sld O S (by omega) hk31 dL_law_220 ?_
  refine g_callL (As := [.int (xs (4 * i + 1)), .int (xs (4 * i + 2))]) (Aw := wX D a P J) (Bw := wM D b P Q) O (hX a J) gL_law_X8_clamp rfl rfl rfl 2 (by decide +kernel) (by decide) (by decide) rfl rfl rfl rfl rfl (Nat.le_of_ble_eq_true rfl) dL_law_221 (fun r9 w9 hp => ?_)
  obtain ⟨rfl, J', rfl⟩ := hp
  refine g_eq (st' := [.int ans]) (ws' := (wM D b P Q ++ wX D a P' J')) rfl rfl rfl ?_
  refine g_aload_n O dL_law_224 2 rfl rfl ?_
  refine g_aload_n O dL_law_225 0 rfl rfl ?_
  refine g_iload_n O dL_law_226 3 rfl rfl ?_
  refine g_iconst (x := (nI 1)) O dL_law_227 (by decide +kernel) ?_
  refine g_iaddN O dL_law_228 ?_
  refine g_sld O S (by omega) hk31 dL_law_229 ?_
  refine g_aload_n O dL_law_230 0 rfl rfl ?_
  refine g_iload_n O dL_law_231 3 rfl rfl ?_
  refine g_iconst (x := (nI 2)) O dL_law_232 (by decide +kernel) ?_
  refine g_iaddN O dL_law_233 ?_
  refine g_sld O S (by omega) hk31 dL_law_234 ?_
  refine g_callL (As := [.int (xs (4 * i + 1)), .int (xs (4 * i + 2))]) (Aw := wM D b P Q) (Bw := wX D a P' J') O (hM b Q hq) gL_law_X9_clamp rfl rfl rfl 2 (by decide +kernel) (by decide) (by decide) rfl rfl rfl rfl rfl (Nat.le_of_ble_eq_true rfl) dL_law_235 (fun r9 w9 hp => ?_)
  obtain ⟨rfl, Q', hq', rfl⟩ := hp
  refine g_eq (st' := [.int ans, .int ans]) (ws' := (wX D a P' J' ++ wM D b P' Q')) rfl rfl rfl ?_
  refine g_icmp_eq (tgt := 850) O dL_law_238 (by decide) (fun _ => ?_) (fun h => absurd rfl h)
  exact kk P' J' Q' hI' hq'
set_option maxRecDepth 100000 in
set_option maxHeartbeats 4000000 in
theorem law_unclamp {X : Fx} {l : Launch} {D : va_G} {z : Nat × Nat × Nat} (O : Ok X l D z cL_law RL wsL_law 4 room_1 false) {bb K : Nat} {xs : Nat → Int32} (S : SX X bb K xs) (hK : K ≤ 2048) {a b : Nat → Nat} {P : PS} {J : JS} {Q : QS} {i Bd : Nat} (hI : IV Bd P) (hB : Bd < 1073741824) (hq : RQ Q P) (hi : 4 * i + 4 ≤ K)
    (kk : ∀ (P' : PS) (J' : JS) (Q' : QS), IV (Bd + 14256) P' → RQ Q' P' → G X 90 11467 850 [(0, .ref bb), (1, .ref (a 0)), (2, .ref (b 0)), (3, .int (nI (4 * i)))] [] (wX D a P' J' ++ wM D b P' Q')) : G X 90 11467 243 [(0, .ref bb), (1, .ref (a 0)), (2, .ref (b 0)), (3, .int (nI (4 * i)))] [] (wX D a P J ++ wM D b P Q) := by
  have hk31 : K < 2147483648 := by omega
  obtain ⟨ans, P', hI', hX, hM⟩ := ST_unclamp l D z hI hB (xs (4 * i + 1))
  refine g_aload_n O dL_law_243 1 rfl rfl ?_
  refine g_aload_n O dL_law_244 0 rfl rfl ?_
  refine g_iload_n O dL_law_245 3 rfl rfl ?_
  refine g_iconst (x := (nI 1)) O dL_law_246 (by decide +kernel) ?_
  refine g_iaddN O dL_law_247 ?_
  refine g_sld O S (by omega) hk31 dL_law_248 ?_
  refine g_callL (As := [.int (xs (4 * i + 1))]) (Aw := wX D a P J) (Bw := wM D b P Q) O (hX a J) gL_law_X8_unclamp rfl rfl rfl 1 (by decide +kernel) (by decide) (by decide) rfl rfl rfl rfl rfl (Nat.le_of_ble_eq_true rfl) dL_law_249 (fun r9 w9 hp => ?_)
  obtain ⟨rfl, J', rfl⟩ := hp
  refine g_eq (st' := [.int ans]) (ws' := (wM D b P Q ++ wX D a P' J')) rfl rfl rfl ?_
  refine g_aload_n O dL_law_252 2 rfl rfl ?_
  refine g_aload_n O dL_law_253 0 rfl rfl ?_
  refine g_iload_n O dL_law_254 3 rfl rfl ?_
  refine g_iconst (x := (nI 1)) O dL_law_255 (by decide +kernel) ?_
  refine g_iaddN O dL_law_256 ?_
  refine g_sld O S (by omega) hk31 dL_law_257 ?_
  refine g_callL (As := [.int (xs (4 * i + 1))]) (Aw := wM D b P Q) (Bw := wX D a P' J') O (hM b Q hq) gL_law_X9_unclamp rfl rfl rfl 1 (by decide +kernel) (by decide) (by decide) rfl rfl rfl rfl rfl (Nat.le_of_ble_eq_true rfl) dL_law_258 (fun r9 w9 hp => ?_)
  obtain ⟨rfl, Q', hq', rfl⟩ := hp
  refine g_eq (st' := [.int ans, .int ans]) (ws' := (wX D a P' J' ++ wM D b P' Q')) rfl rfl rfl ?_
  refine g_icmp_eq (tgt := 850) O dL_law_261 (by decide) (fun _ => ?_) (fun h => absurd rfl h)
  exact kk P' J' Q' hI' hq'
set_option maxRecDepth 100000 in
set_option maxHeartbeats 4000000 in
theorem law_set {X : Fx} {l : Launch} {D : va_G} {z : Nat × Nat × Nat} (O : Ok X l D z cL_law RL wsL_law 4 room_1 false) {bb K : Nat} {xs : Nat → Int32} (S : SX X bb K xs) (hK : K ≤ 2048) {a b : Nat → Nat} {P : PS} {J : JS} {Q : QS} {i Bd : Nat} (hI : IV Bd P) (hB : Bd < 1073741824) (hq : RQ Q P) (hi : 4 * i + 4 ≤ K)
    (kk : ∀ (P' : PS) (J' : JS) (Q' : QS), IV (Bd + 14256) P' → RQ Q' P' → G X 90 11467 850 [(0, .ref bb), (1, .ref (a 0)), (2, .ref (b 0)), (3, .int (nI (4 * i)))] [] (wX D a P' J' ++ wM D b P' Q')) : G X 90 11467 266 [(0, .ref bb), (1, .ref (a 0)), (2, .ref (b 0)), (3, .int (nI (4 * i)))] [] (wX D a P J ++ wM D b P Q) := by
  have hk31 : K < 2147483648 := by omega
  obtain ⟨ans, P', hI', hX, hM⟩ := ST_set l D z hI hB (xs (4 * i + 1)) (xs (4 * i + 2))
  refine g_aload_n O dL_law_266 1 rfl rfl ?_
  refine g_aload_n O dL_law_267 0 rfl rfl ?_
  refine g_iload_n O dL_law_268 3 rfl rfl ?_
  refine g_iconst (x := (nI 1)) O dL_law_269 (by decide +kernel) ?_
  refine g_iaddN O dL_law_270 ?_
  refine g_sld O S (by omega) hk31 dL_law_271 ?_
  refine g_aload_n O dL_law_272 0 rfl rfl ?_
  refine g_iload_n O dL_law_273 3 rfl rfl ?_
  refine g_iconst (x := (nI 2)) O dL_law_274 (by decide +kernel) ?_
  refine g_iaddN O dL_law_275 ?_
  refine g_sld O S (by omega) hk31 dL_law_276 ?_
  refine g_callL (As := [.int (xs (4 * i + 1)), .int (xs (4 * i + 2))]) (Aw := wX D a P J) (Bw := wM D b P Q) O (hX a J) gL_law_X8_set rfl rfl rfl 2 (by decide +kernel) (by decide) (by decide) rfl rfl rfl rfl rfl (Nat.le_of_ble_eq_true rfl) dL_law_277 (fun r9 w9 hp => ?_)
  obtain ⟨rfl, J', rfl⟩ := hp
  refine g_eq (st' := [.int ans]) (ws' := (wM D b P Q ++ wX D a P' J')) rfl rfl rfl ?_
  refine g_aload_n O dL_law_280 2 rfl rfl ?_
  refine g_aload_n O dL_law_281 0 rfl rfl ?_
  refine g_iload_n O dL_law_282 3 rfl rfl ?_
  refine g_iconst (x := (nI 1)) O dL_law_283 (by decide +kernel) ?_
  refine g_iaddN O dL_law_284 ?_
  refine g_sld O S (by omega) hk31 dL_law_285 ?_
  refine g_aload_n O dL_law_286 0 rfl rfl ?_
  refine g_iload_n O dL_law_287 3 rfl rfl ?_
  refine g_iconst (x := (nI 2)) O dL_law_288 (by decide +kernel) ?_
  refine g_iaddN O dL_law_289 ?_
  refine g_sld O S (by omega) hk31 dL_law_290 ?_
  refine g_callL (As := [.int (xs (4 * i + 1)), .int (xs (4 * i + 2))]) (Aw := wM D b P Q) (Bw := wX D a P' J') O (hM b Q hq) gL_law_X9_set rfl rfl rfl 2 (by decide +kernel) (by decide) (by decide) rfl rfl rfl rfl rfl (Nat.le_of_ble_eq_true rfl) dL_law_291 (fun r9 w9 hp => ?_)
  obtain ⟨rfl, Q', hq', rfl⟩ := hp
  refine g_eq (st' := [.int ans, .int ans]) (ws' := (wX D a P' J' ++ wM D b P' Q')) rfl rfl rfl ?_
  refine g_icmp_eq (tgt := 850) O dL_law_294 (by decide) (fun _ => ?_) (fun h => absurd rfl h)
  exact kk P' J' Q' hI' hq'
set_option maxRecDepth 100000 in
set_option maxHeartbeats 4000000 in
theorem law_bow {X : Fx} {l : Launch} {D : va_G} {z : Nat × Nat × Nat} (O : Ok X l D z cL_law RL wsL_law 4 room_1 false) {bb K : Nat} {xs : Nat → Int32} (S : SX X bb K xs) (hK : K ≤ 2048) {a b : Nat → Nat} {P : PS} {J : JS} {Q : QS} {i Bd : Nat} (hI : IV Bd P) (hB : Bd < 1073741824) (hq : RQ Q P) (hi : 4 * i + 4 ≤ K)
    (kk : ∀ (P' : PS) (J' : JS) (Q' : QS), IV (Bd + 14256) P' → RQ Q' P' → G X 90 11467 850 [(0, .ref bb), (1, .ref (a 0)), (2, .ref (b 0)), (3, .int (nI (4 * i)))] [] (wX D a P' J' ++ wM D b P' Q')) : G X 90 11467 299 [(0, .ref bb), (1, .ref (a 0)), (2, .ref (b 0)), (3, .int (nI (4 * i)))] [] (wX D a P J ++ wM D b P Q) := by
  have hk31 : K < 2147483648 := by omega
  obtain ⟨ans, P', hI', hX, hM⟩ := ST_bow l D z hI hB (xs (4 * i + 1)) (xs (4 * i + 2)) (xs (4 * i + 3))
  refine g_aload_n O dL_law_299 1 rfl rfl ?_
  refine g_aload_n O dL_law_300 0 rfl rfl ?_
  refine g_iload_n O dL_law_301 3 rfl rfl ?_
  refine g_iconst (x := (nI 1)) O dL_law_302 (by decide +kernel) ?_
  refine g_iaddN O dL_law_303 ?_
  refine g_sld O S (by omega) hk31 dL_law_304 ?_
  refine g_aload_n O dL_law_305 0 rfl rfl ?_
  refine g_iload_n O dL_law_306 3 rfl rfl ?_
  refine g_iconst (x := (nI 2)) O dL_law_307 (by decide +kernel) ?_
  refine g_iaddN O dL_law_308 ?_
  refine g_sld O S (by omega) hk31 dL_law_309 ?_
  refine g_aload_n O dL_law_310 0 rfl rfl ?_
  refine g_iload_n O dL_law_311 3 rfl rfl ?_
  refine g_iconst (x := (nI 3)) O dL_law_312 (by decide +kernel) ?_
  refine g_iaddN O dL_law_313 ?_
  refine g_sld O S (by omega) hk31 dL_law_314 ?_
  refine g_callL (As := [.int (xs (4 * i + 1)), .int (xs (4 * i + 2)), .int (xs (4 * i + 3))]) (Aw := wX D a P J) (Bw := wM D b P Q) O (hX a J) gL_law_X8_bow rfl rfl rfl 3 (by decide +kernel) (by decide) (by decide) rfl rfl rfl rfl rfl (Nat.le_of_ble_eq_true rfl) dL_law_315 (fun r9 w9 hp => ?_)
  obtain ⟨rfl, J', rfl⟩ := hp
  refine g_eq (st' := [.int ans]) (ws' := (wM D b P Q ++ wX D a P' J')) rfl rfl rfl ?_
  refine g_aload_n O dL_law_318 2 rfl rfl ?_
  refine g_aload_n O dL_law_319 0 rfl rfl ?_
  refine g_iload_n O dL_law_320 3 rfl rfl ?_
  refine g_iconst (x := (nI 1)) O dL_law_321 (by decide +kernel) ?_
  refine g_iaddN O dL_law_322 ?_
  refine g_sld O S (by omega) hk31 dL_law_323 ?_
  refine g_aload_n O dL_law_324 0 rfl rfl ?_
  refine g_iload_n O dL_law_325 3 rfl rfl ?_
  refine g_iconst (x := (nI 2)) O dL_law_326 (by decide +kernel) ?_
  refine g_iaddN O dL_law_327 ?_
  refine g_sld O S (by omega) hk31 dL_law_328 ?_
  refine g_aload_n O dL_law_329 0 rfl rfl ?_
  refine g_iload_n O dL_law_330 3 rfl rfl ?_
  refine g_iconst (x := (nI 3)) O dL_law_331 (by decide +kernel) ?_
  refine g_iaddN O dL_law_332 ?_
  refine g_sld O S (by omega) hk31 dL_law_333 ?_
  refine g_callL (As := [.int (xs (4 * i + 1)), .int (xs (4 * i + 2)), .int (xs (4 * i + 3))]) (Aw := wM D b P Q) (Bw := wX D a P' J') O (hM b Q hq) gL_law_X9_bow rfl rfl rfl 3 (by decide +kernel) (by decide) (by decide) rfl rfl rfl rfl rfl (Nat.le_of_ble_eq_true rfl) dL_law_334 (fun r9 w9 hp => ?_)
  obtain ⟨rfl, Q', hq', rfl⟩ := hp
  refine g_eq (st' := [.int ans, .int ans]) (ws' := (wX D a P' J' ++ wM D b P' Q')) rfl rfl rfl ?_
  refine g_icmp_eq (tgt := 850) O dL_law_337 (by decide) (fun _ => ?_) (fun h => absurd rfl h)
  exact kk P' J' Q' hI' hq'
set_option maxRecDepth 100000 in
set_option maxHeartbeats 4000000 in
theorem law_bowAll {X : Fx} {l : Launch} {D : va_G} {z : Nat × Nat × Nat} (O : Ok X l D z cL_law RL wsL_law 4 room_1 false) {bb K : Nat} {xs : Nat → Int32} (S : SX X bb K xs) (hK : K ≤ 2048) {a b : Nat → Nat} {P : PS} {J : JS} {Q : QS} {i Bd : Nat} (hI : IV Bd P) (hB : Bd < 1073741824) (hq : RQ Q P) (hi : 4 * i + 4 ≤ K)
    (kk : ∀ (P' : PS) (J' : JS) (Q' : QS), IV (Bd + 14256) P' → RQ Q' P' → G X 90 11467 850 [(0, .ref bb), (1, .ref (a 0)), (2, .ref (b 0)), (3, .int (nI (4 * i)))] [] (wX D a P' J' ++ wM D b P' Q')) : G X 90 11467 342 [(0, .ref bb), (1, .ref (a 0)), (2, .ref (b 0)), (3, .int (nI (4 * i)))] [] (wX D a P J ++ wM D b P Q) := by
  have hk31 : K < 2147483648 := by omega
  obtain ⟨ans, P', hI', hX, hM⟩ := ST_bowAll l D z hI hB
  refine g_aload_n O dL_law_342 1 rfl rfl ?_
  refine g_callL (As := []) (Aw := wX D a P J) (Bw := wM D b P Q) O (hX a J) gL_law_X8_bowAll rfl rfl rfl 0 (by decide +kernel) (by decide) (by decide) rfl rfl rfl rfl rfl (Nat.le_of_ble_eq_true rfl) dL_law_343 (fun r9 w9 hp => ?_)
  obtain ⟨rfl, J', rfl⟩ := hp
  refine g_eq (st' := [.int ans]) (ws' := (wM D b P Q ++ wX D a P' J')) rfl rfl rfl ?_
  refine g_aload_n O dL_law_346 2 rfl rfl ?_
  refine g_callL (As := []) (Aw := wM D b P Q) (Bw := wX D a P' J') O (hM b Q hq) gL_law_X9_bowAll rfl rfl rfl 0 (by decide +kernel) (by decide) (by decide) rfl rfl rfl rfl rfl (Nat.le_of_ble_eq_true rfl) dL_law_347 (fun r9 w9 hp => ?_)
  obtain ⟨rfl, Q', hq', rfl⟩ := hp
  refine g_eq (st' := [.int ans, .int ans]) (ws' := (wX D a P' J' ++ wM D b P' Q')) rfl rfl rfl ?_
  refine g_icmp_eq (tgt := 850) O dL_law_350 (by decide) (fun _ => ?_) (fun h => absurd rfl h)
  exact kk P' J' Q' hI' hq'
set_option maxRecDepth 100000 in
set_option maxHeartbeats 4000000 in
theorem law_strike {X : Fx} {l : Launch} {D : va_G} {z : Nat × Nat × Nat} (O : Ok X l D z cL_law RL wsL_law 4 room_1 false) {bb K : Nat} {xs : Nat → Int32} (S : SX X bb K xs) (hK : K ≤ 2048) {a b : Nat → Nat} {P : PS} {J : JS} {Q : QS} {i Bd : Nat} (hI : IV Bd P) (hB : Bd < 1073741824) (hq : RQ Q P) (hi : 4 * i + 4 ≤ K)
    (kk : ∀ (P' : PS) (J' : JS) (Q' : QS), IV (Bd + 14256) P' → RQ Q' P' → G X 90 11467 850 [(0, .ref bb), (1, .ref (a 0)), (2, .ref (b 0)), (3, .int (nI (4 * i)))] [] (wX D a P' J' ++ wM D b P' Q')) : G X 90 11467 355 [(0, .ref bb), (1, .ref (a 0)), (2, .ref (b 0)), (3, .int (nI (4 * i)))] [] (wX D a P J ++ wM D b P Q) := by
  have hk31 : K < 2147483648 := by omega
  obtain ⟨ans, P', hI', hX, hM⟩ := ST_strike l D z hI hB (xs (4 * i + 1))
  refine g_aload_n O dL_law_355 1 rfl rfl ?_
  refine g_aload_n O dL_law_356 0 rfl rfl ?_
  refine g_iload_n O dL_law_357 3 rfl rfl ?_
  refine g_iconst (x := (nI 1)) O dL_law_358 (by decide +kernel) ?_
  refine g_iaddN O dL_law_359 ?_
  refine g_sld O S (by omega) hk31 dL_law_360 ?_
  refine g_callL (As := [.int (xs (4 * i + 1))]) (Aw := wX D a P J) (Bw := wM D b P Q) O (hX a J) gL_law_X8_strike rfl rfl rfl 1 (by decide +kernel) (by decide) (by decide) rfl rfl rfl rfl rfl (Nat.le_of_ble_eq_true rfl) dL_law_361 (fun r9 w9 hp => ?_)
  obtain ⟨rfl, J', rfl⟩ := hp
  refine g_eq (st' := [.int ans]) (ws' := (wM D b P Q ++ wX D a P' J')) rfl rfl rfl ?_
  refine g_aload_n O dL_law_364 2 rfl rfl ?_
  refine g_aload_n O dL_law_365 0 rfl rfl ?_
  refine g_iload_n O dL_law_366 3 rfl rfl ?_
  refine g_iconst (x := (nI 1)) O dL_law_367 (by decide +kernel) ?_
  refine g_iaddN O dL_law_368 ?_
  refine g_sld O S (by omega) hk31 dL_law_369 ?_
  refine g_callL (As := [.int (xs (4 * i + 1))]) (Aw := wM D b P Q) (Bw := wX D a P' J') O (hM b Q hq) gL_law_X9_strike rfl rfl rfl 1 (by decide +kernel) (by decide) (by decide) rfl rfl rfl rfl rfl (Nat.le_of_ble_eq_true rfl) dL_law_370 (fun r9 w9 hp => ?_)
  obtain ⟨rfl, Q', hq', rfl⟩ := hp
  refine g_eq (st' := [.int ans, .int ans]) (ws' := (wX D a P' J' ++ wM D b P' Q')) rfl rfl rfl ?_
  refine g_icmp_eq (tgt := 850) O dL_law_373 (by decide) (fun _ => ?_) (fun h => absurd rfl h)
  exact kk P' J' Q' hI' hq'
set_option maxRecDepth 100000 in
set_option maxHeartbeats 4000000 in
theorem law_play {X : Fx} {l : Launch} {D : va_G} {z : Nat × Nat × Nat} (O : Ok X l D z cL_law RL wsL_law 4 room_1 false) {bb K : Nat} {xs : Nat → Int32} (S : SX X bb K xs) (hK : K ≤ 2048) {a b : Nat → Nat} {P : PS} {J : JS} {Q : QS} {i Bd : Nat} (hI : IV Bd P) (hB : Bd < 1073741824) (hq : RQ Q P) (hi : 4 * i + 4 ≤ K)
    (kk : ∀ (P' : PS) (J' : JS) (Q' : QS), IV (Bd + 14256) P' → RQ Q' P' → G X 90 11467 850 [(0, .ref bb), (1, .ref (a 0)), (2, .ref (b 0)), (3, .int (nI (4 * i)))] [] (wX D a P' J' ++ wM D b P' Q')) : G X 90 11467 378 [(0, .ref bb), (1, .ref (a 0)), (2, .ref (b 0)), (3, .int (nI (4 * i)))] [] (wX D a P J ++ wM D b P Q) := by
  have hk31 : K < 2147483648 := by omega
  obtain ⟨ans, P', hI', hX, hM⟩ := ST_play l D z hI hB (xs (4 * i + 1))
  refine g_aload_n O dL_law_378 1 rfl rfl ?_
  refine g_aload_n O dL_law_379 0 rfl rfl ?_
  refine g_iload_n O dL_law_380 3 rfl rfl ?_
  refine g_iconst (x := (nI 1)) O dL_law_381 (by decide +kernel) ?_
  refine g_iaddN O dL_law_382 ?_
  refine g_sld O S (by omega) hk31 dL_law_383 ?_
  refine g_callL (As := [.int (xs (4 * i + 1))]) (Aw := wX D a P J) (Bw := wM D b P Q) O (hX a J) gL_law_X8_play rfl rfl rfl 1 (by decide +kernel) (by decide) (by decide) rfl rfl rfl rfl rfl (Nat.le_of_ble_eq_true rfl) dL_law_384 (fun r9 w9 hp => ?_)
  obtain ⟨rfl, J', rfl⟩ := hp
  refine g_eq (st' := [.int ans]) (ws' := (wM D b P Q ++ wX D a P' J')) rfl rfl rfl ?_
  refine g_aload_n O dL_law_387 2 rfl rfl ?_
  refine g_aload_n O dL_law_388 0 rfl rfl ?_
  refine g_iload_n O dL_law_389 3 rfl rfl ?_
  refine g_iconst (x := (nI 1)) O dL_law_390 (by decide +kernel) ?_
  refine g_iaddN O dL_law_391 ?_
  refine g_sld O S (by omega) hk31 dL_law_392 ?_
  refine g_callL (As := [.int (xs (4 * i + 1))]) (Aw := wM D b P Q) (Bw := wX D a P' J') O (hM b Q hq) gL_law_X9_play rfl rfl rfl 1 (by decide +kernel) (by decide) (by decide) rfl rfl rfl rfl rfl (Nat.le_of_ble_eq_true rfl) dL_law_393 (fun r9 w9 hp => ?_)
  obtain ⟨rfl, Q', hq', rfl⟩ := hp
  refine g_eq (st' := [.int ans, .int ans]) (ws' := (wX D a P' J' ++ wM D b P' Q')) rfl rfl rfl ?_
  refine g_icmp_eq (tgt := 850) O dL_law_396 (by decide) (fun _ => ?_) (fun h => absurd rfl h)
  exact kk P' J' Q' hI' hq'
set_option maxRecDepth 100000 in
set_option maxHeartbeats 4000000 in
theorem law_type {X : Fx} {l : Launch} {D : va_G} {z : Nat × Nat × Nat} (O : Ok X l D z cL_law RL wsL_law 4 room_1 false) {bb K : Nat} {xs : Nat → Int32} (S : SX X bb K xs) (hK : K ≤ 2048) {a b : Nat → Nat} {P : PS} {J : JS} {Q : QS} {i Bd : Nat} (hI : IV Bd P) (hB : Bd < 1073741824) (hq : RQ Q P) (hi : 4 * i + 4 ≤ K)
    (kk : ∀ (P' : PS) (J' : JS) (Q' : QS), IV (Bd + 14256) P' → RQ Q' P' → G X 90 11467 850 [(0, .ref bb), (1, .ref (a 0)), (2, .ref (b 0)), (3, .int (nI (4 * i)))] [] (wX D a P' J' ++ wM D b P' Q')) : G X 90 11467 401 [(0, .ref bb), (1, .ref (a 0)), (2, .ref (b 0)), (3, .int (nI (4 * i)))] [] (wX D a P J ++ wM D b P Q) := by
  have hk31 : K < 2147483648 := by omega
  obtain ⟨ans, P', hI', hX, hM⟩ := ST_type l D z hI hB ((xs (4 * i + 1)).toBitVec.toNat % 65536) (Nat.mod_lt _ (by decide))
  refine g_aload_n O dL_law_401 1 rfl rfl ?_
  refine g_aload_n O dL_law_402 0 rfl rfl ?_
  refine g_iload_n O dL_law_403 3 rfl rfl ?_
  refine g_iconst (x := (nI 1)) O dL_law_404 (by decide +kernel) ?_
  refine g_iaddN O dL_law_405 ?_
  refine g_sld O S (by omega) hk31 dL_law_406 ?_
  refine g_i2c O dL_law_407 rfl ?_
  refine g_eq (st' := [.int (nI ((xs (4 * i + 1)).toBitVec.toNat % 65536)), .ref (a 0)]) (by rw [pk_char]) rfl rfl ?_
  refine g_callL (As := [.int (nI ((xs (4 * i + 1)).toBitVec.toNat % 65536))]) (Aw := wX D a P J) (Bw := wM D b P Q) O (hX a J) gL_law_X8_type rfl rfl rfl 1 (by decide +kernel) (by decide) (by decide) rfl rfl rfl rfl rfl (Nat.le_of_ble_eq_true rfl) dL_law_408 (fun r9 w9 hp => ?_)
  obtain ⟨rfl, J', rfl⟩ := hp
  refine g_eq (st' := [.int ans]) (ws' := (wM D b P Q ++ wX D a P' J')) rfl rfl rfl ?_
  refine g_aload_n O dL_law_411 2 rfl rfl ?_
  refine g_aload_n O dL_law_412 0 rfl rfl ?_
  refine g_iload_n O dL_law_413 3 rfl rfl ?_
  refine g_iconst (x := (nI 1)) O dL_law_414 (by decide +kernel) ?_
  refine g_iaddN O dL_law_415 ?_
  refine g_sld O S (by omega) hk31 dL_law_416 ?_
  refine g_i2c O dL_law_417 rfl ?_
  refine g_eq (st' := [.int (nI ((xs (4 * i + 1)).toBitVec.toNat % 65536)), .ref (b 0), .int ans]) (by rw [pk_char]) rfl rfl ?_
  refine g_callL (As := [.int (nI ((xs (4 * i + 1)).toBitVec.toNat % 65536))]) (Aw := wM D b P Q) (Bw := wX D a P' J') O (hM b Q hq) gL_law_X9_type rfl rfl rfl 1 (by decide +kernel) (by decide) (by decide) rfl rfl rfl rfl rfl (Nat.le_of_ble_eq_true rfl) dL_law_418 (fun r9 w9 hp => ?_)
  obtain ⟨rfl, Q', hq', rfl⟩ := hp
  refine g_eq (st' := [.int ans, .int ans]) (ws' := (wX D a P' J' ++ wM D b P' Q')) rfl rfl rfl ?_
  refine g_icmp_eq (tgt := 850) O dL_law_421 (by decide) (fun _ => ?_) (fun h => absurd rfl h)
  exact kk P' J' Q' hI' hq'
set_option maxRecDepth 100000 in
set_option maxHeartbeats 4000000 in
theorem law_clearText {X : Fx} {l : Launch} {D : va_G} {z : Nat × Nat × Nat} (O : Ok X l D z cL_law RL wsL_law 4 room_1 false) {bb K : Nat} {xs : Nat → Int32} (S : SX X bb K xs) (hK : K ≤ 2048) {a b : Nat → Nat} {P : PS} {J : JS} {Q : QS} {i Bd : Nat} (hI : IV Bd P) (hB : Bd < 1073741824) (hq : RQ Q P) (hi : 4 * i + 4 ≤ K)
    (kk : ∀ (P' : PS) (J' : JS) (Q' : QS), IV (Bd + 14256) P' → RQ Q' P' → G X 90 11467 850 [(0, .ref bb), (1, .ref (a 0)), (2, .ref (b 0)), (3, .int (nI (4 * i)))] [] (wX D a P' J' ++ wM D b P' Q')) : G X 90 11467 426 [(0, .ref bb), (1, .ref (a 0)), (2, .ref (b 0)), (3, .int (nI (4 * i)))] [] (wX D a P J ++ wM D b P Q) := by
  have hk31 : K < 2147483648 := by omega
  obtain ⟨ans, P', hI', hX, hM⟩ := ST_clearText l D z hI hB
  refine g_aload_n O dL_law_426 1 rfl rfl ?_
  refine g_callL (As := []) (Aw := wX D a P J) (Bw := wM D b P Q) O (hX a J) gL_law_X8_clearText rfl rfl rfl 0 (by decide +kernel) (by decide) (by decide) rfl rfl rfl rfl rfl (Nat.le_of_ble_eq_true rfl) dL_law_427 (fun r9 w9 hp => ?_)
  obtain ⟨rfl, J', rfl⟩ := hp
  refine g_eq (st' := [.int ans]) (ws' := (wM D b P Q ++ wX D a P' J')) rfl rfl rfl ?_
  refine g_aload_n O dL_law_430 2 rfl rfl ?_
  refine g_callL (As := []) (Aw := wM D b P Q) (Bw := wX D a P' J') O (hM b Q hq) gL_law_X9_clearText rfl rfl rfl 0 (by decide +kernel) (by decide) (by decide) rfl rfl rfl rfl rfl (Nat.le_of_ble_eq_true rfl) dL_law_431 (fun r9 w9 hp => ?_)
  obtain ⟨rfl, Q', hq', rfl⟩ := hp
  refine g_eq (st' := [.int ans, .int ans]) (ws' := (wX D a P' J' ++ wM D b P' Q')) rfl rfl rfl ?_
  refine g_icmp_eq (tgt := 850) O dL_law_434 (by decide) (fun _ => ?_) (fun h => absurd rfl h)
  exact kk P' J' Q' hI' hq'
set_option maxRecDepth 100000 in
set_option maxHeartbeats 4000000 in
theorem law_undo {X : Fx} {l : Launch} {D : va_G} {z : Nat × Nat × Nat} (O : Ok X l D z cL_law RL wsL_law 4 room_1 false) {bb K : Nat} {xs : Nat → Int32} (S : SX X bb K xs) (hK : K ≤ 2048) {a b : Nat → Nat} {P : PS} {J : JS} {Q : QS} {i Bd : Nat} (hI : IV Bd P) (hB : Bd < 1073741824) (hq : RQ Q P) (hi : 4 * i + 4 ≤ K)
    (kk : ∀ (P' : PS) (J' : JS) (Q' : QS), IV (Bd + 14256) P' → RQ Q' P' → G X 90 11467 850 [(0, .ref bb), (1, .ref (a 0)), (2, .ref (b 0)), (3, .int (nI (4 * i)))] [] (wX D a P' J' ++ wM D b P' Q')) : G X 90 11467 439 [(0, .ref bb), (1, .ref (a 0)), (2, .ref (b 0)), (3, .int (nI (4 * i)))] [] (wX D a P J ++ wM D b P Q) := by
  have hk31 : K < 2147483648 := by omega
  obtain ⟨ans, P', hI', hX, hM⟩ := ST_undo l D z hI hB
  refine g_aload_n O dL_law_439 1 rfl rfl ?_
  refine g_callL (As := []) (Aw := wX D a P J) (Bw := wM D b P Q) O (hX a J) gL_law_X8_undo rfl rfl rfl 0 (by decide +kernel) (by decide) (by decide) rfl rfl rfl rfl rfl (Nat.le_of_ble_eq_true rfl) dL_law_440 (fun r9 w9 hp => ?_)
  obtain ⟨rfl, J', rfl⟩ := hp
  refine g_eq (st' := [.int ans]) (ws' := (wM D b P Q ++ wX D a P' J')) rfl rfl rfl ?_
  refine g_aload_n O dL_law_443 2 rfl rfl ?_
  refine g_callL (As := []) (Aw := wM D b P Q) (Bw := wX D a P' J') O (hM b Q hq) gL_law_X9_undo rfl rfl rfl 0 (by decide +kernel) (by decide) (by decide) rfl rfl rfl rfl rfl (Nat.le_of_ble_eq_true rfl) dL_law_444 (fun r9 w9 hp => ?_)
  obtain ⟨rfl, Q', hq', rfl⟩ := hp
  refine g_eq (st' := [.int ans, .int ans]) (ws' := (wX D a P' J' ++ wM D b P' Q')) rfl rfl rfl ?_
  refine g_icmp_eq (tgt := 850) O dL_law_447 (by decide) (fun _ => ?_) (fun h => absurd rfl h)
  exact kk P' J' Q' hI' hq'
set_option maxRecDepth 100000 in
set_option maxHeartbeats 4000000 in
theorem law_keep {X : Fx} {l : Launch} {D : va_G} {z : Nat × Nat × Nat} (O : Ok X l D z cL_law RL wsL_law 4 room_1 false) {bb K : Nat} {xs : Nat → Int32} (S : SX X bb K xs) (hK : K ≤ 2048) {a b : Nat → Nat} {P : PS} {J : JS} {Q : QS} {i Bd : Nat} (hI : IV Bd P) (hB : Bd < 1073741824) (hq : RQ Q P) (hi : 4 * i + 4 ≤ K)
    (kk : ∀ (P' : PS) (J' : JS) (Q' : QS), IV (Bd + 14256) P' → RQ Q' P' → G X 90 11467 850 [(0, .ref bb), (1, .ref (a 0)), (2, .ref (b 0)), (3, .int (nI (4 * i)))] [] (wX D a P' J' ++ wM D b P' Q')) : G X 90 11467 452 [(0, .ref bb), (1, .ref (a 0)), (2, .ref (b 0)), (3, .int (nI (4 * i)))] [] (wX D a P J ++ wM D b P Q) := by
  have hk31 : K < 2147483648 := by omega
  obtain ⟨ans, P', hI', hX, hM⟩ := ST_keep l D z hI hB
  refine g_aload_n O dL_law_452 1 rfl rfl ?_
  refine g_callL (As := []) (Aw := wX D a P J) (Bw := wM D b P Q) O (hX a J) gL_law_X8_keep rfl rfl rfl 0 (by decide +kernel) (by decide) (by decide) rfl rfl rfl rfl rfl (Nat.le_of_ble_eq_true rfl) dL_law_453 (fun r9 w9 hp => ?_)
  obtain ⟨rfl, J', rfl⟩ := hp
  refine g_eq (st' := [.int ans]) (ws' := (wM D b P Q ++ wX D a P' J')) rfl rfl rfl ?_
  refine g_aload_n O dL_law_456 2 rfl rfl ?_
  refine g_callL (As := []) (Aw := wM D b P Q) (Bw := wX D a P' J') O (hM b Q hq) gL_law_X9_keep rfl rfl rfl 0 (by decide +kernel) (by decide) (by decide) rfl rfl rfl rfl rfl (Nat.le_of_ble_eq_true rfl) dL_law_457 (fun r9 w9 hp => ?_)
  obtain ⟨rfl, Q', hq', rfl⟩ := hp
  refine g_eq (st' := [.int ans, .int ans]) (ws' := (wX D a P' J' ++ wM D b P' Q')) rfl rfl rfl ?_
  refine g_icmp_eq (tgt := 850) O dL_law_460 (by decide) (fun _ => ?_) (fun h => absurd rfl h)
  exact kk P' J' Q' hI' hq'
set_option maxRecDepth 100000 in
set_option maxHeartbeats 4000000 in
theorem law_restore {X : Fx} {l : Launch} {D : va_G} {z : Nat × Nat × Nat} (O : Ok X l D z cL_law RL wsL_law 4 room_1 false) {bb K : Nat} {xs : Nat → Int32} (S : SX X bb K xs) (hK : K ≤ 2048) {a b : Nat → Nat} {P : PS} {J : JS} {Q : QS} {i Bd : Nat} (hI : IV Bd P) (hB : Bd < 1073741824) (hq : RQ Q P) (hi : 4 * i + 4 ≤ K)
    (kk : ∀ (P' : PS) (J' : JS) (Q' : QS), IV (Bd + 14256) P' → RQ Q' P' → G X 90 11467 850 [(0, .ref bb), (1, .ref (a 0)), (2, .ref (b 0)), (3, .int (nI (4 * i)))] [] (wX D a P' J' ++ wM D b P' Q')) : G X 90 11467 465 [(0, .ref bb), (1, .ref (a 0)), (2, .ref (b 0)), (3, .int (nI (4 * i)))] [] (wX D a P J ++ wM D b P Q) := by
  have hk31 : K < 2147483648 := by omega
  obtain ⟨ans, P', hI', hX, hM⟩ := ST_restore l D z hI hB
  refine g_aload_n O dL_law_465 1 rfl rfl ?_
  refine g_callL (As := []) (Aw := wX D a P J) (Bw := wM D b P Q) O (hX a J) gL_law_X8_restore rfl rfl rfl 0 (by decide +kernel) (by decide) (by decide) rfl rfl rfl rfl rfl (Nat.le_of_ble_eq_true rfl) dL_law_466 (fun r9 w9 hp => ?_)
  obtain ⟨rfl, J', rfl⟩ := hp
  refine g_eq (st' := [.int ans]) (ws' := (wM D b P Q ++ wX D a P' J')) rfl rfl rfl ?_
  refine g_aload_n O dL_law_469 2 rfl rfl ?_
  refine g_callL (As := []) (Aw := wM D b P Q) (Bw := wX D a P' J') O (hM b Q hq) gL_law_X9_restore rfl rfl rfl 0 (by decide +kernel) (by decide) (by decide) rfl rfl rfl rfl rfl (Nat.le_of_ble_eq_true rfl) dL_law_470 (fun r9 w9 hp => ?_)
  obtain ⟨rfl, Q', hq', rfl⟩ := hp
  refine g_eq (st' := [.int ans, .int ans]) (ws' := (wX D a P' J' ++ wM D b P' Q')) rfl rfl rfl ?_
  refine g_icmp_eq (tgt := 850) O dL_law_473 (by decide) (fun _ => ?_) (fun h => absurd rfl h)
  exact kk P' J' Q' hI' hq'
set_option maxRecDepth 100000 in
set_option maxHeartbeats 4000000 in
theorem law_place {X : Fx} {l : Launch} {D : va_G} {z : Nat × Nat × Nat} (O : Ok X l D z cL_law RL wsL_law 4 room_1 false) {bb K : Nat} {xs : Nat → Int32} (S : SX X bb K xs) (hK : K ≤ 2048) {a b : Nat → Nat} {P : PS} {J : JS} {Q : QS} {i Bd : Nat} (hI : IV Bd P) (hB : Bd < 1073741824) (hq : RQ Q P) (hi : 4 * i + 4 ≤ K)
    (kk : ∀ (P' : PS) (J' : JS) (Q' : QS), IV (Bd + 14256) P' → RQ Q' P' → G X 90 11467 850 [(0, .ref bb), (1, .ref (a 0)), (2, .ref (b 0)), (3, .int (nI (4 * i)))] [] (wX D a P' J' ++ wM D b P' Q')) : G X 90 11467 478 [(0, .ref bb), (1, .ref (a 0)), (2, .ref (b 0)), (3, .int (nI (4 * i)))] [] (wX D a P J ++ wM D b P Q) := by
  have hk31 : K < 2147483648 := by omega
  obtain ⟨ans, P', hI', hX, hM⟩ := ST_place l D z hI hB (xs (4 * i + 1)) (xs (4 * i + 2)) (xs (4 * i + 3))
  refine g_aload_n O dL_law_478 1 rfl rfl ?_
  refine g_aload_n O dL_law_479 0 rfl rfl ?_
  refine g_iload_n O dL_law_480 3 rfl rfl ?_
  refine g_iconst (x := (nI 1)) O dL_law_481 (by decide +kernel) ?_
  refine g_iaddN O dL_law_482 ?_
  refine g_sld O S (by omega) hk31 dL_law_483 ?_
  refine g_aload_n O dL_law_484 0 rfl rfl ?_
  refine g_iload_n O dL_law_485 3 rfl rfl ?_
  refine g_iconst (x := (nI 2)) O dL_law_486 (by decide +kernel) ?_
  refine g_iaddN O dL_law_487 ?_
  refine g_sld O S (by omega) hk31 dL_law_488 ?_
  refine g_aload_n O dL_law_489 0 rfl rfl ?_
  refine g_iload_n O dL_law_490 3 rfl rfl ?_
  refine g_iconst (x := (nI 3)) O dL_law_491 (by decide +kernel) ?_
  refine g_iaddN O dL_law_492 ?_
  refine g_sld O S (by omega) hk31 dL_law_493 ?_
  refine g_callL (As := [.int (xs (4 * i + 1)), .int (xs (4 * i + 2)), .int (xs (4 * i + 3))]) (Aw := wX D a P J) (Bw := wM D b P Q) O (hX a J) gL_law_X8_place rfl rfl rfl 3 (by decide +kernel) (by decide) (by decide) rfl rfl rfl rfl rfl (Nat.le_of_ble_eq_true rfl) dL_law_494 (fun r9 w9 hp => ?_)
  obtain ⟨rfl, J', rfl⟩ := hp
  refine g_eq (st' := [.int ans]) (ws' := (wM D b P Q ++ wX D a P' J')) rfl rfl rfl ?_
  refine g_aload_n O dL_law_497 2 rfl rfl ?_
  refine g_aload_n O dL_law_498 0 rfl rfl ?_
  refine g_iload_n O dL_law_499 3 rfl rfl ?_
  refine g_iconst (x := (nI 1)) O dL_law_500 (by decide +kernel) ?_
  refine g_iaddN O dL_law_501 ?_
  refine g_sld O S (by omega) hk31 dL_law_502 ?_
  refine g_aload_n O dL_law_503 0 rfl rfl ?_
  refine g_iload_n O dL_law_504 3 rfl rfl ?_
  refine g_iconst (x := (nI 2)) O dL_law_505 (by decide +kernel) ?_
  refine g_iaddN O dL_law_506 ?_
  refine g_sld O S (by omega) hk31 dL_law_507 ?_
  refine g_aload_n O dL_law_508 0 rfl rfl ?_
  refine g_iload_n O dL_law_509 3 rfl rfl ?_
  refine g_iconst (x := (nI 3)) O dL_law_510 (by decide +kernel) ?_
  refine g_iaddN O dL_law_511 ?_
  refine g_sld O S (by omega) hk31 dL_law_512 ?_
  refine g_callL (As := [.int (xs (4 * i + 1)), .int (xs (4 * i + 2)), .int (xs (4 * i + 3))]) (Aw := wM D b P Q) (Bw := wX D a P' J') O (hM b Q hq) gL_law_X9_place rfl rfl rfl 3 (by decide +kernel) (by decide) (by decide) rfl rfl rfl rfl rfl (Nat.le_of_ble_eq_true rfl) dL_law_513 (fun r9 w9 hp => ?_)
  obtain ⟨rfl, Q', hq', rfl⟩ := hp
  refine g_eq (st' := [.int ans, .int ans]) (ws' := (wX D a P' J' ++ wM D b P' Q')) rfl rfl rfl ?_
  refine g_icmp_eq (tgt := 850) O dL_law_516 (by decide) (fun _ => ?_) (fun h => absurd rfl h)
  exact kk P' J' Q' hI' hq'
set_option maxRecDepth 100000 in
set_option maxHeartbeats 4000000 in
theorem law_way {X : Fx} {l : Launch} {D : va_G} {z : Nat × Nat × Nat} (O : Ok X l D z cL_law RL wsL_law 4 room_1 false) {bb K : Nat} {xs : Nat → Int32} (S : SX X bb K xs) (hK : K ≤ 2048) {a b : Nat → Nat} {P : PS} {J : JS} {Q : QS} {i Bd : Nat} (hI : IV Bd P) (hB : Bd < 1073741824) (hq : RQ Q P) (hi : 4 * i + 4 ≤ K)
    (kk : ∀ (P' : PS) (J' : JS) (Q' : QS), IV (Bd + 14256) P' → RQ Q' P' → G X 90 11467 850 [(0, .ref bb), (1, .ref (a 0)), (2, .ref (b 0)), (3, .int (nI (4 * i)))] [] (wX D a P' J' ++ wM D b P' Q')) : G X 90 11467 521 [(0, .ref bb), (1, .ref (a 0)), (2, .ref (b 0)), (3, .int (nI (4 * i)))] [] (wX D a P J ++ wM D b P Q) := by
  have hk31 : K < 2147483648 := by omega
  obtain ⟨ans, P', hI', hX, hM⟩ := ST_way l D z hI hB (xs (4 * i + 1)) (xs (4 * i + 2))
  refine g_aload_n O dL_law_521 1 rfl rfl ?_
  refine g_aload_n O dL_law_522 0 rfl rfl ?_
  refine g_iload_n O dL_law_523 3 rfl rfl ?_
  refine g_iconst (x := (nI 1)) O dL_law_524 (by decide +kernel) ?_
  refine g_iaddN O dL_law_525 ?_
  refine g_sld O S (by omega) hk31 dL_law_526 ?_
  refine g_aload_n O dL_law_527 0 rfl rfl ?_
  refine g_iload_n O dL_law_528 3 rfl rfl ?_
  refine g_iconst (x := (nI 2)) O dL_law_529 (by decide +kernel) ?_
  refine g_iaddN O dL_law_530 ?_
  refine g_sld O S (by omega) hk31 dL_law_531 ?_
  refine g_callL (As := [.int (xs (4 * i + 1)), .int (xs (4 * i + 2))]) (Aw := wX D a P J) (Bw := wM D b P Q) O (hX a J) gL_law_X8_way rfl rfl rfl 2 (by decide +kernel) (by decide) (by decide) rfl rfl rfl rfl rfl (Nat.le_of_ble_eq_true rfl) dL_law_532 (fun r9 w9 hp => ?_)
  obtain ⟨rfl, J', rfl⟩ := hp
  refine g_eq (st' := [.int ans]) (ws' := (wM D b P Q ++ wX D a P' J')) rfl rfl rfl ?_
  refine g_aload_n O dL_law_535 2 rfl rfl ?_
  refine g_aload_n O dL_law_536 0 rfl rfl ?_
  refine g_iload_n O dL_law_537 3 rfl rfl ?_
  refine g_iconst (x := (nI 1)) O dL_law_538 (by decide +kernel) ?_
  refine g_iaddN O dL_law_539 ?_
  refine g_sld O S (by omega) hk31 dL_law_540 ?_
  refine g_aload_n O dL_law_541 0 rfl rfl ?_
  refine g_iload_n O dL_law_542 3 rfl rfl ?_
  refine g_iconst (x := (nI 2)) O dL_law_543 (by decide +kernel) ?_
  refine g_iaddN O dL_law_544 ?_
  refine g_sld O S (by omega) hk31 dL_law_545 ?_
  refine g_callL (As := [.int (xs (4 * i + 1)), .int (xs (4 * i + 2))]) (Aw := wM D b P Q) (Bw := wX D a P' J') O (hM b Q hq) gL_law_X9_way rfl rfl rfl 2 (by decide +kernel) (by decide) (by decide) rfl rfl rfl rfl rfl (Nat.le_of_ble_eq_true rfl) dL_law_546 (fun r9 w9 hp => ?_)
  obtain ⟨rfl, Q', hq', rfl⟩ := hp
  refine g_eq (st' := [.int ans, .int ans]) (ws' := (wX D a P' J' ++ wM D b P' Q')) rfl rfl rfl ?_
  refine g_icmp_eq (tgt := 850) O dL_law_549 (by decide) (fun _ => ?_) (fun h => absurd rfl h)
  exact kk P' J' Q' hI' hq'
set_option maxRecDepth 100000 in
set_option maxHeartbeats 4000000 in
theorem law_swing {X : Fx} {l : Launch} {D : va_G} {z : Nat × Nat × Nat} (O : Ok X l D z cL_law RL wsL_law 4 room_1 false) {bb K : Nat} {xs : Nat → Int32} (S : SX X bb K xs) (hK : K ≤ 2048) {a b : Nat → Nat} {P : PS} {J : JS} {Q : QS} {i Bd : Nat} (hI : IV Bd P) (hB : Bd < 1073741824) (hq : RQ Q P) (hi : 4 * i + 4 ≤ K)
    (kk : ∀ (P' : PS) (J' : JS) (Q' : QS), IV (Bd + 14256) P' → RQ Q' P' → G X 90 11467 850 [(0, .ref bb), (1, .ref (a 0)), (2, .ref (b 0)), (3, .int (nI (4 * i)))] [] (wX D a P' J' ++ wM D b P' Q')) : G X 90 11467 554 [(0, .ref bb), (1, .ref (a 0)), (2, .ref (b 0)), (3, .int (nI (4 * i)))] [] (wX D a P J ++ wM D b P Q) := by
  have hk31 : K < 2147483648 := by omega
  obtain ⟨ans, P', hI', hX, hM⟩ := ST_swing l D z hI hB (xs (4 * i + 1)) (xs (4 * i + 2)) (xs (4 * i + 3))
  refine g_aload_n O dL_law_554 1 rfl rfl ?_
  refine g_aload_n O dL_law_555 0 rfl rfl ?_
  refine g_iload_n O dL_law_556 3 rfl rfl ?_
  refine g_iconst (x := (nI 1)) O dL_law_557 (by decide +kernel) ?_
  refine g_iaddN O dL_law_558 ?_
  refine g_sld O S (by omega) hk31 dL_law_559 ?_
  refine g_aload_n O dL_law_560 0 rfl rfl ?_
  refine g_iload_n O dL_law_561 3 rfl rfl ?_
  refine g_iconst (x := (nI 2)) O dL_law_562 (by decide +kernel) ?_
  refine g_iaddN O dL_law_563 ?_
  refine g_sld O S (by omega) hk31 dL_law_564 ?_
  refine g_aload_n O dL_law_565 0 rfl rfl ?_
  refine g_iload_n O dL_law_566 3 rfl rfl ?_
  refine g_iconst (x := (nI 3)) O dL_law_567 (by decide +kernel) ?_
  refine g_iaddN O dL_law_568 ?_
  refine g_sld O S (by omega) hk31 dL_law_569 ?_
  refine g_callL (As := [.int (xs (4 * i + 1)), .int (xs (4 * i + 2)), .int (xs (4 * i + 3))]) (Aw := wX D a P J) (Bw := wM D b P Q) O (hX a J) gL_law_X8_swing rfl rfl rfl 3 (by decide +kernel) (by decide) (by decide) rfl rfl rfl rfl rfl (Nat.le_of_ble_eq_true rfl) dL_law_570 (fun r9 w9 hp => ?_)
  obtain ⟨rfl, J', rfl⟩ := hp
  refine g_eq (st' := [.int ans]) (ws' := (wM D b P Q ++ wX D a P' J')) rfl rfl rfl ?_
  refine g_aload_n O dL_law_573 2 rfl rfl ?_
  refine g_aload_n O dL_law_574 0 rfl rfl ?_
  refine g_iload_n O dL_law_575 3 rfl rfl ?_
  refine g_iconst (x := (nI 1)) O dL_law_576 (by decide +kernel) ?_
  refine g_iaddN O dL_law_577 ?_
  refine g_sld O S (by omega) hk31 dL_law_578 ?_
  refine g_aload_n O dL_law_579 0 rfl rfl ?_
  refine g_iload_n O dL_law_580 3 rfl rfl ?_
  refine g_iconst (x := (nI 2)) O dL_law_581 (by decide +kernel) ?_
  refine g_iaddN O dL_law_582 ?_
  refine g_sld O S (by omega) hk31 dL_law_583 ?_
  refine g_aload_n O dL_law_584 0 rfl rfl ?_
  refine g_iload_n O dL_law_585 3 rfl rfl ?_
  refine g_iconst (x := (nI 3)) O dL_law_586 (by decide +kernel) ?_
  refine g_iaddN O dL_law_587 ?_
  refine g_sld O S (by omega) hk31 dL_law_588 ?_
  refine g_callL (As := [.int (xs (4 * i + 1)), .int (xs (4 * i + 2)), .int (xs (4 * i + 3))]) (Aw := wM D b P Q) (Bw := wX D a P' J') O (hM b Q hq) gL_law_X9_swing rfl rfl rfl 3 (by decide +kernel) (by decide) (by decide) rfl rfl rfl rfl rfl (Nat.le_of_ble_eq_true rfl) dL_law_589 (fun r9 w9 hp => ?_)
  obtain ⟨rfl, Q', hq', rfl⟩ := hp
  refine g_eq (st' := [.int ans, .int ans]) (ws' := (wX D a P' J' ++ wM D b P' Q')) rfl rfl rfl ?_
  refine g_icmp_eq (tgt := 850) O dL_law_592 (by decide) (fun _ => ?_) (fun h => absurd rfl h)
  exact kk P' J' Q' hI' hq'
set_option maxRecDepth 100000 in
set_option maxHeartbeats 4000000 in
theorem law_sounds {X : Fx} {l : Launch} {D : va_G} {z : Nat × Nat × Nat} (O : Ok X l D z cL_law RL wsL_law 4 room_1 false) {bb K : Nat} {xs : Nat → Int32} (S : SX X bb K xs) (hK : K ≤ 2048) {a b : Nat → Nat} {P : PS} {J : JS} {Q : QS} {i Bd : Nat} (hI : IV Bd P) (hB : Bd < 1073741824) (hq : RQ Q P) (hi : 4 * i + 4 ≤ K)
    (kk : ∀ (P' : PS) (J' : JS) (Q' : QS), IV (Bd + 14256) P' → RQ Q' P' → G X 90 11467 850 [(0, .ref bb), (1, .ref (a 0)), (2, .ref (b 0)), (3, .int (nI (4 * i)))] [] (wX D a P' J' ++ wM D b P' Q')) : G X 90 11467 597 [(0, .ref bb), (1, .ref (a 0)), (2, .ref (b 0)), (3, .int (nI (4 * i)))] [] (wX D a P J ++ wM D b P Q) := by
  have hk31 : K < 2147483648 := by omega
  obtain ⟨ans, P', hI', hX, hM⟩ := ST_sounds l D z hI hB (xs (4 * i + 1)) (xs (4 * i + 2))
  refine g_aload_n O dL_law_597 1 rfl rfl ?_
  refine g_aload_n O dL_law_598 0 rfl rfl ?_
  refine g_iload_n O dL_law_599 3 rfl rfl ?_
  refine g_iconst (x := (nI 1)) O dL_law_600 (by decide +kernel) ?_
  refine g_iaddN O dL_law_601 ?_
  refine g_sld O S (by omega) hk31 dL_law_602 ?_
  refine g_aload_n O dL_law_603 0 rfl rfl ?_
  refine g_iload_n O dL_law_604 3 rfl rfl ?_
  refine g_iconst (x := (nI 2)) O dL_law_605 (by decide +kernel) ?_
  refine g_iaddN O dL_law_606 ?_
  refine g_sld O S (by omega) hk31 dL_law_607 ?_
  refine g_callL (As := [.int (xs (4 * i + 1)), .int (xs (4 * i + 2))]) (Aw := wX D a P J) (Bw := wM D b P Q) O (hX a J) gL_law_X8_sounds rfl rfl rfl 2 (by decide +kernel) (by decide) (by decide) rfl rfl rfl rfl rfl (Nat.le_of_ble_eq_true rfl) dL_law_608 (fun r9 w9 hp => ?_)
  obtain ⟨rfl, J', rfl⟩ := hp
  refine g_eq (st' := [.int ans]) (ws' := (wM D b P Q ++ wX D a P' J')) rfl rfl rfl ?_
  refine g_aload_n O dL_law_611 2 rfl rfl ?_
  refine g_aload_n O dL_law_612 0 rfl rfl ?_
  refine g_iload_n O dL_law_613 3 rfl rfl ?_
  refine g_iconst (x := (nI 1)) O dL_law_614 (by decide +kernel) ?_
  refine g_iaddN O dL_law_615 ?_
  refine g_sld O S (by omega) hk31 dL_law_616 ?_
  refine g_aload_n O dL_law_617 0 rfl rfl ?_
  refine g_iload_n O dL_law_618 3 rfl rfl ?_
  refine g_iconst (x := (nI 2)) O dL_law_619 (by decide +kernel) ?_
  refine g_iaddN O dL_law_620 ?_
  refine g_sld O S (by omega) hk31 dL_law_621 ?_
  refine g_callL (As := [.int (xs (4 * i + 1)), .int (xs (4 * i + 2))]) (Aw := wM D b P Q) (Bw := wX D a P' J') O (hM b Q hq) gL_law_X9_sounds rfl rfl rfl 2 (by decide +kernel) (by decide) (by decide) rfl rfl rfl rfl rfl (Nat.le_of_ble_eq_true rfl) dL_law_622 (fun r9 w9 hp => ?_)
  obtain ⟨rfl, Q', hq', rfl⟩ := hp
  refine g_eq (st' := [.int ans, .int ans]) (ws' := (wX D a P' J' ++ wM D b P' Q')) rfl rfl rfl ?_
  refine g_icmp_eq (tgt := 850) O dL_law_625 (by decide) (fun _ => ?_) (fun h => absurd rfl h)
  exact kk P' J' Q' hI' hq'
set_option maxRecDepth 100000 in
set_option maxHeartbeats 4000000 in
theorem law_why {X : Fx} {l : Launch} {D : va_G} {z : Nat × Nat × Nat} (O : Ok X l D z cL_law RL wsL_law 4 room_1 false) {bb K : Nat} {xs : Nat → Int32} (S : SX X bb K xs) (hK : K ≤ 2048) {a b : Nat → Nat} {P : PS} {J : JS} {Q : QS} {i Bd : Nat} (hI : IV Bd P) (hB : Bd < 1073741824) (hq : RQ Q P) (hi : 4 * i + 4 ≤ K)
    (kk : ∀ (P' : PS) (J' : JS) (Q' : QS), IV (Bd + 14256) P' → RQ Q' P' → G X 90 11467 850 [(0, .ref bb), (1, .ref (a 0)), (2, .ref (b 0)), (3, .int (nI (4 * i)))] [] (wX D a P' J' ++ wM D b P' Q')) : G X 90 11467 630 [(0, .ref bb), (1, .ref (a 0)), (2, .ref (b 0)), (3, .int (nI (4 * i)))] [] (wX D a P J ++ wM D b P Q) := by
  have hk31 : K < 2147483648 := by omega
  obtain ⟨ans, P', hI', hX, hM⟩ := ST_why l D z hI hB (xs (4 * i + 1)) (xs (4 * i + 2)) (xs (4 * i + 3))
  refine g_aload_n O dL_law_630 1 rfl rfl ?_
  refine g_aload_n O dL_law_631 0 rfl rfl ?_
  refine g_iload_n O dL_law_632 3 rfl rfl ?_
  refine g_iconst (x := (nI 1)) O dL_law_633 (by decide +kernel) ?_
  refine g_iaddN O dL_law_634 ?_
  refine g_sld O S (by omega) hk31 dL_law_635 ?_
  refine g_aload_n O dL_law_636 0 rfl rfl ?_
  refine g_iload_n O dL_law_637 3 rfl rfl ?_
  refine g_iconst (x := (nI 2)) O dL_law_638 (by decide +kernel) ?_
  refine g_iaddN O dL_law_639 ?_
  refine g_sld O S (by omega) hk31 dL_law_640 ?_
  refine g_aload_n O dL_law_641 0 rfl rfl ?_
  refine g_iload_n O dL_law_642 3 rfl rfl ?_
  refine g_iconst (x := (nI 3)) O dL_law_643 (by decide +kernel) ?_
  refine g_iaddN O dL_law_644 ?_
  refine g_sld O S (by omega) hk31 dL_law_645 ?_
  refine g_callL (As := [.int (xs (4 * i + 1)), .int (xs (4 * i + 2)), .int (xs (4 * i + 3))]) (Aw := wX D a P J) (Bw := wM D b P Q) O (hX a J) gL_law_X8_why rfl rfl rfl 3 (by decide +kernel) (by decide) (by decide) rfl rfl rfl rfl rfl (Nat.le_of_ble_eq_true rfl) dL_law_646 (fun r9 w9 hp => ?_)
  obtain ⟨rfl, J', rfl⟩ := hp
  refine g_eq (st' := [.int ans]) (ws' := (wM D b P Q ++ wX D a P' J')) rfl rfl rfl ?_
  refine g_aload_n O dL_law_649 2 rfl rfl ?_
  refine g_aload_n O dL_law_650 0 rfl rfl ?_
  refine g_iload_n O dL_law_651 3 rfl rfl ?_
  refine g_iconst (x := (nI 1)) O dL_law_652 (by decide +kernel) ?_
  refine g_iaddN O dL_law_653 ?_
  refine g_sld O S (by omega) hk31 dL_law_654 ?_
  refine g_aload_n O dL_law_655 0 rfl rfl ?_
  refine g_iload_n O dL_law_656 3 rfl rfl ?_
  refine g_iconst (x := (nI 2)) O dL_law_657 (by decide +kernel) ?_
  refine g_iaddN O dL_law_658 ?_
  refine g_sld O S (by omega) hk31 dL_law_659 ?_
  refine g_aload_n O dL_law_660 0 rfl rfl ?_
  refine g_iload_n O dL_law_661 3 rfl rfl ?_
  refine g_iconst (x := (nI 3)) O dL_law_662 (by decide +kernel) ?_
  refine g_iaddN O dL_law_663 ?_
  refine g_sld O S (by omega) hk31 dL_law_664 ?_
  refine g_callL (As := [.int (xs (4 * i + 1)), .int (xs (4 * i + 2)), .int (xs (4 * i + 3))]) (Aw := wM D b P Q) (Bw := wX D a P' J') O (hM b Q hq) gL_law_X9_why rfl rfl rfl 3 (by decide +kernel) (by decide) (by decide) rfl rfl rfl rfl rfl (Nat.le_of_ble_eq_true rfl) dL_law_665 (fun r9 w9 hp => ?_)
  obtain ⟨rfl, Q', hq', rfl⟩ := hp
  refine g_eq (st' := [.int ans, .int ans]) (ws' := (wX D a P' J' ++ wM D b P' Q')) rfl rfl rfl ?_
  refine g_icmp_eq (tgt := 850) O dL_law_668 (by decide) (fun _ => ?_) (fun h => absurd rfl h)
  exact kk P' J' Q' hI' hq'
set_option maxRecDepth 100000 in
set_option maxHeartbeats 4000000 in
theorem law_possible {X : Fx} {l : Launch} {D : va_G} {z : Nat × Nat × Nat} (O : Ok X l D z cL_law RL wsL_law 4 room_1 false) {bb K : Nat} {xs : Nat → Int32} (S : SX X bb K xs) (hK : K ≤ 2048) {a b : Nat → Nat} {P : PS} {J : JS} {Q : QS} {i Bd : Nat} (hI : IV Bd P) (hB : Bd < 1073741824) (hq : RQ Q P) (hi : 4 * i + 4 ≤ K)
    (kk : ∀ (P' : PS) (J' : JS) (Q' : QS), IV (Bd + 14256) P' → RQ Q' P' → G X 90 11467 850 [(0, .ref bb), (1, .ref (a 0)), (2, .ref (b 0)), (3, .int (nI (4 * i)))] [] (wX D a P' J' ++ wM D b P' Q')) : G X 90 11467 673 [(0, .ref bb), (1, .ref (a 0)), (2, .ref (b 0)), (3, .int (nI (4 * i)))] [] (wX D a P J ++ wM D b P Q) := by
  have hk31 : K < 2147483648 := by omega
  obtain ⟨ans, P', hI', hX, hM⟩ := ST_possible l D z hI hB (xs (4 * i + 1))
  refine g_aload_n O dL_law_673 1 rfl rfl ?_
  refine g_aload_n O dL_law_674 0 rfl rfl ?_
  refine g_iload_n O dL_law_675 3 rfl rfl ?_
  refine g_iconst (x := (nI 1)) O dL_law_676 (by decide +kernel) ?_
  refine g_iaddN O dL_law_677 ?_
  refine g_sld O S (by omega) hk31 dL_law_678 ?_
  refine g_callL (As := [.int (xs (4 * i + 1))]) (Aw := wX D a P J) (Bw := wM D b P Q) O (hX a J) gL_law_X8_possible rfl rfl rfl 1 (by decide +kernel) (by decide) (by decide) rfl rfl rfl rfl rfl (Nat.le_of_ble_eq_true rfl) dL_law_679 (fun r9 w9 hp => ?_)
  obtain ⟨rfl, J', rfl⟩ := hp
  refine g_eq (st' := [.int ans]) (ws' := (wM D b P Q ++ wX D a P' J')) rfl rfl rfl ?_
  refine g_aload_n O dL_law_682 2 rfl rfl ?_
  refine g_aload_n O dL_law_683 0 rfl rfl ?_
  refine g_iload_n O dL_law_684 3 rfl rfl ?_
  refine g_iconst (x := (nI 1)) O dL_law_685 (by decide +kernel) ?_
  refine g_iaddN O dL_law_686 ?_
  refine g_sld O S (by omega) hk31 dL_law_687 ?_
  refine g_callL (As := [.int (xs (4 * i + 1))]) (Aw := wM D b P Q) (Bw := wX D a P' J') O (hM b Q hq) gL_law_X9_possible rfl rfl rfl 1 (by decide +kernel) (by decide) (by decide) rfl rfl rfl rfl rfl (Nat.le_of_ble_eq_true rfl) dL_law_688 (fun r9 w9 hp => ?_)
  obtain ⟨rfl, Q', hq', rfl⟩ := hp
  refine g_eq (st' := [.int ans, .int ans]) (ws' := (wX D a P' J' ++ wM D b P' Q')) rfl rfl rfl ?_
  refine g_icmp_eq (tgt := 850) O dL_law_691 (by decide) (fun _ => ?_) (fun h => absurd rfl h)
  exact kk P' J' Q' hI' hq'
set_option maxRecDepth 100000 in
set_option maxHeartbeats 4000000 in
theorem law_waiting {X : Fx} {l : Launch} {D : va_G} {z : Nat × Nat × Nat} (O : Ok X l D z cL_law RL wsL_law 4 room_1 false) {bb K : Nat} {xs : Nat → Int32} (S : SX X bb K xs) (hK : K ≤ 2048) {a b : Nat → Nat} {P : PS} {J : JS} {Q : QS} {i Bd : Nat} (hI : IV Bd P) (hB : Bd < 1073741824) (hq : RQ Q P) (hi : 4 * i + 4 ≤ K)
    (kk : ∀ (P' : PS) (J' : JS) (Q' : QS), IV (Bd + 14256) P' → RQ Q' P' → G X 90 11467 850 [(0, .ref bb), (1, .ref (a 0)), (2, .ref (b 0)), (3, .int (nI (4 * i)))] [] (wX D a P' J' ++ wM D b P' Q')) : G X 90 11467 696 [(0, .ref bb), (1, .ref (a 0)), (2, .ref (b 0)), (3, .int (nI (4 * i)))] [] (wX D a P J ++ wM D b P Q) := by
  have hk31 : K < 2147483648 := by omega
  obtain ⟨ans, P', hI', hX, hM⟩ := ST_waiting l D z hI hB (xs (4 * i + 1)) (xs (4 * i + 2))
  refine g_aload_n O dL_law_696 1 rfl rfl ?_
  refine g_aload_n O dL_law_697 0 rfl rfl ?_
  refine g_iload_n O dL_law_698 3 rfl rfl ?_
  refine g_iconst (x := (nI 1)) O dL_law_699 (by decide +kernel) ?_
  refine g_iaddN O dL_law_700 ?_
  refine g_sld O S (by omega) hk31 dL_law_701 ?_
  refine g_aload_n O dL_law_702 0 rfl rfl ?_
  refine g_iload_n O dL_law_703 3 rfl rfl ?_
  refine g_iconst (x := (nI 2)) O dL_law_704 (by decide +kernel) ?_
  refine g_iaddN O dL_law_705 ?_
  refine g_sld O S (by omega) hk31 dL_law_706 ?_
  refine g_callL (As := [.int (xs (4 * i + 1)), .int (xs (4 * i + 2))]) (Aw := wX D a P J) (Bw := wM D b P Q) O (hX a J) gL_law_X8_waiting rfl rfl rfl 2 (by decide +kernel) (by decide) (by decide) rfl rfl rfl rfl rfl (Nat.le_of_ble_eq_true rfl) dL_law_707 (fun r9 w9 hp => ?_)
  obtain ⟨rfl, J', rfl⟩ := hp
  refine g_eq (st' := [.int ans]) (ws' := (wM D b P Q ++ wX D a P' J')) rfl rfl rfl ?_
  refine g_aload_n O dL_law_710 2 rfl rfl ?_
  refine g_aload_n O dL_law_711 0 rfl rfl ?_
  refine g_iload_n O dL_law_712 3 rfl rfl ?_
  refine g_iconst (x := (nI 1)) O dL_law_713 (by decide +kernel) ?_
  refine g_iaddN O dL_law_714 ?_
  refine g_sld O S (by omega) hk31 dL_law_715 ?_
  refine g_aload_n O dL_law_716 0 rfl rfl ?_
  refine g_iload_n O dL_law_717 3 rfl rfl ?_
  refine g_iconst (x := (nI 2)) O dL_law_718 (by decide +kernel) ?_
  refine g_iaddN O dL_law_719 ?_
  refine g_sld O S (by omega) hk31 dL_law_720 ?_
  refine g_callL (As := [.int (xs (4 * i + 1)), .int (xs (4 * i + 2))]) (Aw := wM D b P Q) (Bw := wX D a P' J') O (hM b Q hq) gL_law_X9_waiting rfl rfl rfl 2 (by decide +kernel) (by decide) (by decide) rfl rfl rfl rfl rfl (Nat.le_of_ble_eq_true rfl) dL_law_721 (fun r9 w9 hp => ?_)
  obtain ⟨rfl, Q', hq', rfl⟩ := hp
  refine g_eq (st' := [.int ans, .int ans]) (ws' := (wX D a P' J' ++ wM D b P' Q')) rfl rfl rfl ?_
  refine g_icmp_eq (tgt := 850) O dL_law_724 (by decide) (fun _ => ?_) (fun h => absurd rfl h)
  exact kk P' J' Q' hI' hq'
set_option maxRecDepth 100000 in
set_option maxHeartbeats 4000000 in
theorem law_sand {X : Fx} {l : Launch} {D : va_G} {z : Nat × Nat × Nat} (O : Ok X l D z cL_law RL wsL_law 4 room_1 false) {bb K : Nat} {xs : Nat → Int32} (S : SX X bb K xs) (hK : K ≤ 2048) {a b : Nat → Nat} {P : PS} {J : JS} {Q : QS} {i Bd : Nat} (hI : IV Bd P) (hB : Bd < 1073741824) (hq : RQ Q P) (hi : 4 * i + 4 ≤ K)
    (kk : ∀ (P' : PS) (J' : JS) (Q' : QS), IV (Bd + 14256) P' → RQ Q' P' → G X 90 11467 850 [(0, .ref bb), (1, .ref (a 0)), (2, .ref (b 0)), (3, .int (nI (4 * i)))] [] (wX D a P' J' ++ wM D b P' Q')) : G X 90 11467 729 [(0, .ref bb), (1, .ref (a 0)), (2, .ref (b 0)), (3, .int (nI (4 * i)))] [] (wX D a P J ++ wM D b P Q) := by
  have hk31 : K < 2147483648 := by omega
  obtain ⟨r, hr⟩ : ∃ r, r = !decide ((xs (4 * i + 1)) = 0) := ⟨_, rfl⟩
  obtain ⟨ans, P', hI', hX, hM⟩ := ST_sand l D z hI hB r (xs (4 * i + 2))
  refine g_aload_n O dL_law_729 1 rfl rfl ?_
  refine g_aload_n O dL_law_730 0 rfl rfl ?_
  refine g_iload_n O dL_law_731 3 rfl rfl ?_
  refine g_iconst (x := (nI 1)) O dL_law_732 (by decide +kernel) ?_
  refine g_iaddN O dL_law_733 ?_
  refine g_sld O S (by omega) hk31 dL_law_734 ?_
  have hbool : ∀ (st : List Value) (ws : va_W), G X 90 11467 743 [(0, .ref bb), (1, .ref (a 0)), (2, .ref (b 0)), (3, .int (nI (4 * i)))] (.int (bB r) :: st) ws → G X 90 11467 735 [(0, .ref bb), (1, .ref (a 0)), (2, .ref (b 0)), (3, .int (nI (4 * i)))] (.int (xs (4 * i + 1)) :: st) ws := by
    intro st ws kz
    refine g_if_eq (tgt := 742) O dL_law_735 (by decide) (fun h0 => ?_) (fun h0 => ?_)
    · refine g_iconst (x := (nI 0)) O dL_law_742 (by decide +kernel) ?_
      exact g_eq (by rw [hr, decide_eq_true h0]; rfl) rfl rfl kz
    · refine g_iconst (x := (nI 1)) O dL_law_738 (by decide +kernel) ?_
      refine g_goto (tgt := 743) O dL_law_739 (by decide) ?_
      exact g_eq (by rw [hr, decide_eq_false h0]; rfl) rfl rfl kz
  refine hbool _ _ ?_
  refine g_aload_n O dL_law_743 0 rfl rfl ?_
  refine g_iload_n O dL_law_744 3 rfl rfl ?_
  refine g_iconst (x := (nI 2)) O dL_law_745 (by decide +kernel) ?_
  refine g_iaddN O dL_law_746 ?_
  refine g_sld O S (by omega) hk31 dL_law_747 ?_
  refine g_callL (As := [.int (bB r), .int (xs (4 * i + 2))]) (Aw := wX D a P J) (Bw := wM D b P Q) O (hX a J) gL_law_X8_sand rfl rfl rfl 2 (by decide +kernel) (by decide) (by decide) rfl rfl rfl rfl rfl (Nat.le_of_ble_eq_true rfl) dL_law_748 (fun r9 w9 hp => ?_)
  obtain ⟨rfl, J', rfl⟩ := hp
  refine g_eq (st' := [.int ans]) (ws' := (wM D b P Q ++ wX D a P' J')) rfl rfl rfl ?_
  refine g_aload_n O dL_law_751 2 rfl rfl ?_
  refine g_aload_n O dL_law_752 0 rfl rfl ?_
  refine g_iload_n O dL_law_753 3 rfl rfl ?_
  refine g_iconst (x := (nI 1)) O dL_law_754 (by decide +kernel) ?_
  refine g_iaddN O dL_law_755 ?_
  refine g_sld O S (by omega) hk31 dL_law_756 ?_
  have hbool : ∀ (st : List Value) (ws : va_W), G X 90 11467 765 [(0, .ref bb), (1, .ref (a 0)), (2, .ref (b 0)), (3, .int (nI (4 * i)))] (.int (bB r) :: st) ws → G X 90 11467 757 [(0, .ref bb), (1, .ref (a 0)), (2, .ref (b 0)), (3, .int (nI (4 * i)))] (.int (xs (4 * i + 1)) :: st) ws := by
    intro st ws kz
    refine g_if_eq (tgt := 764) O dL_law_757 (by decide) (fun h0 => ?_) (fun h0 => ?_)
    · refine g_iconst (x := (nI 0)) O dL_law_764 (by decide +kernel) ?_
      exact g_eq (by rw [hr, decide_eq_true h0]; rfl) rfl rfl kz
    · refine g_iconst (x := (nI 1)) O dL_law_760 (by decide +kernel) ?_
      refine g_goto (tgt := 765) O dL_law_761 (by decide) ?_
      exact g_eq (by rw [hr, decide_eq_false h0]; rfl) rfl rfl kz
  refine hbool _ _ ?_
  refine g_aload_n O dL_law_765 0 rfl rfl ?_
  refine g_iload_n O dL_law_766 3 rfl rfl ?_
  refine g_iconst (x := (nI 2)) O dL_law_767 (by decide +kernel) ?_
  refine g_iaddN O dL_law_768 ?_
  refine g_sld O S (by omega) hk31 dL_law_769 ?_
  refine g_callL (As := [.int (bB r), .int (xs (4 * i + 2))]) (Aw := wM D b P Q) (Bw := wX D a P' J') O (hM b Q hq) gL_law_X9_sand rfl rfl rfl 2 (by decide +kernel) (by decide) (by decide) rfl rfl rfl rfl rfl (Nat.le_of_ble_eq_true rfl) dL_law_770 (fun r9 w9 hp => ?_)
  obtain ⟨rfl, Q', hq', rfl⟩ := hp
  refine g_eq (st' := [.int ans, .int ans]) (ws' := (wX D a P' J' ++ wM D b P' Q')) rfl rfl rfl ?_
  refine g_icmp_eq (tgt := 850) O dL_law_773 (by decide) (fun _ => ?_) (fun h => absurd rfl h)
  exact kk P' J' Q' hI' hq'
set_option maxRecDepth 100000 in
set_option maxHeartbeats 4000000 in
theorem law_count {X : Fx} {l : Launch} {D : va_G} {z : Nat × Nat × Nat} (O : Ok X l D z cL_law RL wsL_law 4 room_1 false) {bb K : Nat} {xs : Nat → Int32} (S : SX X bb K xs) (hK : K ≤ 2048) {a b : Nat → Nat} {P : PS} {J : JS} {Q : QS} {i Bd : Nat} (hI : IV Bd P) (hB : Bd < 1073741824) (hq : RQ Q P) (hi : 4 * i + 4 ≤ K)
    (kk : ∀ (P' : PS) (J' : JS) (Q' : QS), IV (Bd + 14256) P' → RQ Q' P' → G X 90 11467 850 [(0, .ref bb), (1, .ref (a 0)), (2, .ref (b 0)), (3, .int (nI (4 * i)))] [] (wX D a P' J' ++ wM D b P' Q')) : G X 90 11467 778 [(0, .ref bb), (1, .ref (a 0)), (2, .ref (b 0)), (3, .int (nI (4 * i)))] [] (wX D a P J ++ wM D b P Q) := by
  have hk31 : K < 2147483648 := by omega
  obtain ⟨ans, P', hI', hX, hM⟩ := ST_count l D z hI hB (xs (4 * i + 1))
  refine g_aload_n O dL_law_778 1 rfl rfl ?_
  refine g_aload_n O dL_law_779 0 rfl rfl ?_
  refine g_iload_n O dL_law_780 3 rfl rfl ?_
  refine g_iconst (x := (nI 1)) O dL_law_781 (by decide +kernel) ?_
  refine g_iaddN O dL_law_782 ?_
  refine g_sld O S (by omega) hk31 dL_law_783 ?_
  refine g_callL (As := [.int (xs (4 * i + 1))]) (Aw := wX D a P J) (Bw := wM D b P Q) O (hX a J) gL_law_X8_count rfl rfl rfl 1 (by decide +kernel) (by decide) (by decide) rfl rfl rfl rfl rfl (Nat.le_of_ble_eq_true rfl) dL_law_784 (fun r9 w9 hp => ?_)
  obtain ⟨rfl, J', rfl⟩ := hp
  refine g_eq (st' := [.int ans]) (ws' := (wM D b P Q ++ wX D a P' J')) rfl rfl rfl ?_
  refine g_aload_n O dL_law_787 2 rfl rfl ?_
  refine g_aload_n O dL_law_788 0 rfl rfl ?_
  refine g_iload_n O dL_law_789 3 rfl rfl ?_
  refine g_iconst (x := (nI 1)) O dL_law_790 (by decide +kernel) ?_
  refine g_iaddN O dL_law_791 ?_
  refine g_sld O S (by omega) hk31 dL_law_792 ?_
  refine g_callL (As := [.int (xs (4 * i + 1))]) (Aw := wM D b P Q) (Bw := wX D a P' J') O (hM b Q hq) gL_law_X9_count rfl rfl rfl 1 (by decide +kernel) (by decide) (by decide) rfl rfl rfl rfl rfl (Nat.le_of_ble_eq_true rfl) dL_law_793 (fun r9 w9 hp => ?_)
  obtain ⟨rfl, Q', hq', rfl⟩ := hp
  refine g_eq (st' := [.int ans, .int ans]) (ws' := (wX D a P' J' ++ wM D b P' Q')) rfl rfl rfl ?_
  refine g_icmp_eq (tgt := 850) O dL_law_796 (by decide) (fun _ => ?_) (fun h => absurd rfl h)
  exact kk P' J' Q' hI' hq'
set_option maxRecDepth 100000 in
set_option maxHeartbeats 4000000 in
theorem law_clampAt {X : Fx} {l : Launch} {D : va_G} {z : Nat × Nat × Nat} (O : Ok X l D z cL_law RL wsL_law 4 room_1 false) {bb K : Nat} {xs : Nat → Int32} (S : SX X bb K xs) (hK : K ≤ 2048) {a b : Nat → Nat} {P : PS} {J : JS} {Q : QS} {i Bd : Nat} (hI : IV Bd P) (hB : Bd < 1073741824) (hq : RQ Q P) (hi : 4 * i + 4 ≤ K)
    (kk : ∀ (P' : PS) (J' : JS) (Q' : QS), IV (Bd + 14256) P' → RQ Q' P' → G X 90 11467 850 [(0, .ref bb), (1, .ref (a 0)), (2, .ref (b 0)), (3, .int (nI (4 * i)))] [] (wX D a P' J' ++ wM D b P' Q')) : G X 90 11467 801 [(0, .ref bb), (1, .ref (a 0)), (2, .ref (b 0)), (3, .int (nI (4 * i)))] [] (wX D a P J ++ wM D b P Q) := by
  have hk31 : K < 2147483648 := by omega
  obtain ⟨r, hr⟩ : ∃ r, r = !decide ((xs (4 * i + 2)) = 0) := ⟨_, rfl⟩
  obtain ⟨ans, P', hI', hX, hM⟩ := ST_clampAt l D z hI hB (xs (4 * i + 1)) r
  refine g_aload_n O dL_law_801 1 rfl rfl ?_
  refine g_aload_n O dL_law_802 0 rfl rfl ?_
  refine g_iload_n O dL_law_803 3 rfl rfl ?_
  refine g_iconst (x := (nI 1)) O dL_law_804 (by decide +kernel) ?_
  refine g_iaddN O dL_law_805 ?_
  refine g_sld O S (by omega) hk31 dL_law_806 ?_
  refine g_aload_n O dL_law_807 0 rfl rfl ?_
  refine g_iload_n O dL_law_808 3 rfl rfl ?_
  refine g_iconst (x := (nI 2)) O dL_law_809 (by decide +kernel) ?_
  refine g_iaddN O dL_law_810 ?_
  refine g_sld O S (by omega) hk31 dL_law_811 ?_
  have hbool : ∀ (st : List Value) (ws : va_W), G X 90 11467 820 [(0, .ref bb), (1, .ref (a 0)), (2, .ref (b 0)), (3, .int (nI (4 * i)))] (.int (bB r) :: st) ws → G X 90 11467 812 [(0, .ref bb), (1, .ref (a 0)), (2, .ref (b 0)), (3, .int (nI (4 * i)))] (.int (xs (4 * i + 2)) :: st) ws := by
    intro st ws kz
    refine g_if_eq (tgt := 819) O dL_law_812 (by decide) (fun h0 => ?_) (fun h0 => ?_)
    · refine g_iconst (x := (nI 0)) O dL_law_819 (by decide +kernel) ?_
      exact g_eq (by rw [hr, decide_eq_true h0]; rfl) rfl rfl kz
    · refine g_iconst (x := (nI 1)) O dL_law_815 (by decide +kernel) ?_
      refine g_goto (tgt := 820) O dL_law_816 (by decide) ?_
      exact g_eq (by rw [hr, decide_eq_false h0]; rfl) rfl rfl kz
  refine hbool _ _ ?_
  refine g_callL (As := [.int (xs (4 * i + 1)), .int (bB r)]) (Aw := wX D a P J) (Bw := wM D b P Q) O (hX a J) gL_law_X8_clampAt rfl rfl rfl 2 (by decide +kernel) (by decide) (by decide) rfl rfl rfl rfl rfl (Nat.le_of_ble_eq_true rfl) dL_law_820 (fun r9 w9 hp => ?_)
  obtain ⟨rfl, J', rfl⟩ := hp
  refine g_eq (st' := [.int ans]) (ws' := (wM D b P Q ++ wX D a P' J')) rfl rfl rfl ?_
  refine g_aload_n O dL_law_823 2 rfl rfl ?_
  refine g_aload_n O dL_law_824 0 rfl rfl ?_
  refine g_iload_n O dL_law_825 3 rfl rfl ?_
  refine g_iconst (x := (nI 1)) O dL_law_826 (by decide +kernel) ?_
  refine g_iaddN O dL_law_827 ?_
  refine g_sld O S (by omega) hk31 dL_law_828 ?_
  refine g_aload_n O dL_law_829 0 rfl rfl ?_
  refine g_iload_n O dL_law_830 3 rfl rfl ?_
  refine g_iconst (x := (nI 2)) O dL_law_831 (by decide +kernel) ?_
  refine g_iaddN O dL_law_832 ?_
  refine g_sld O S (by omega) hk31 dL_law_833 ?_
  have hbool : ∀ (st : List Value) (ws : va_W), G X 90 11467 842 [(0, .ref bb), (1, .ref (a 0)), (2, .ref (b 0)), (3, .int (nI (4 * i)))] (.int (bB r) :: st) ws → G X 90 11467 834 [(0, .ref bb), (1, .ref (a 0)), (2, .ref (b 0)), (3, .int (nI (4 * i)))] (.int (xs (4 * i + 2)) :: st) ws := by
    intro st ws kz
    refine g_if_eq (tgt := 841) O dL_law_834 (by decide) (fun h0 => ?_) (fun h0 => ?_)
    · refine g_iconst (x := (nI 0)) O dL_law_841 (by decide +kernel) ?_
      exact g_eq (by rw [hr, decide_eq_true h0]; rfl) rfl rfl kz
    · refine g_iconst (x := (nI 1)) O dL_law_837 (by decide +kernel) ?_
      refine g_goto (tgt := 842) O dL_law_838 (by decide) ?_
      exact g_eq (by rw [hr, decide_eq_false h0]; rfl) rfl rfl kz
  refine hbool _ _ ?_
  refine g_callL (As := [.int (xs (4 * i + 1)), .int (bB r)]) (Aw := wM D b P Q) (Bw := wX D a P' J') O (hM b Q hq) gL_law_X9_clampAt rfl rfl rfl 2 (by decide +kernel) (by decide) (by decide) rfl rfl rfl rfl rfl (Nat.le_of_ble_eq_true rfl) dL_law_842 (fun r9 w9 hp => ?_)
  obtain ⟨rfl, Q', hq', rfl⟩ := hp
  refine g_eq (st' := [.int ans, .int ans]) (ws' := (wX D a P' J' ++ wM D b P' Q')) rfl rfl rfl ?_
  refine g_icmp_eq (tgt := 850) O dL_law_845 (by decide) (fun _ => ?_) (fun h => absurd rfl h)
  exact kk P' J' Q' hI' hq'
