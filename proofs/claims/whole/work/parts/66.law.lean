set_option maxHeartbeats 4000000 in
set_option maxRecDepth 100000 in
theorem law_0 {p : Program} {l : Launch} {e : Env} {s : State} {m : MethodId} {g : Array Value} {below : List Frame} {meth : Method} {c : Code} {D : va_G} {Z : CZ} {A0 : Nat → Prop} {Q : State → Prop} {mc ms : Nat} (C : KX p s m g c cL_law 4 wsL_law RL D Z A0) (hN : NWs s) (hSW : SW Z A0 s s.heap) {b L : Nat} {xs : Nat → Int32} (hX : va_X b L xs s s.heap) (hbl : b < s.heap.size) (hbA : ¬ A0 b) (hL : L ≤ 2048) (h1 : mc + 0 ≤ room_1.cells) (h2 : ms + 0 ≤ room_1.slots) {A B : Nat → Nat} {i : Nat} (hi : i + 4 ≤ L) {σ τ : St} (h : Lsm σ τ) (hnext : ∀ σ' τ', Lsm σ' τ' → KW p l e room_1 s m g below meth c D A0 4 Q (wC Z A σ' ++ wM Z B τ') mc ms 881 [(0, .ref b), (1, .ref (A 0)), (2, .ref (B 0)), (3, .int (nI i))] []) : KW p l e room_1 s m g below meth c D A0 4 Q (wC Z A σ ++ wM Z B τ) mc ms 152 [(0, .ref b), (1, .ref (A 0)), (2, .ref (B 0)), (3, .int (nI i))] [] := by
  obtain ⟨X, F, ck, co, K, nn, Bt, Lt, hC, hI, hM⟩ := h
  obtain ⟨hO, hKO, hnn, hLt, hBt⟩ := id hI
  refine kw_aload_n (pc := 152) C dL_law_152 rfl 1 rfl ?_
  refine kw_aload_n (pc := 153) C dL_law_153 rfl 0 rfl ?_
  refine kw_iload_n (pc := 154) C dL_law_154 rfl 3 rfl ?_
  refine kw_iconst (pc := 155) C dL_law_155 (nI 1) (by decide) ?_
  refine kw_iadd (pc := 156) C dL_law_156 (z := nI (i + 1)) (nI_add _ _) ?_
  refine kw_sld (pc := 157) C hX hbl hbA dL_law_157 (i + 1) rfl (by omega) (by omega) ?_
  refine kw_aload_n (pc := 158) C dL_law_158 rfl 0 rfl ?_
  refine kw_iload_n (pc := 159) C dL_law_159 rfl 3 rfl ?_
  refine kw_iconst (pc := 160) C dL_law_160 (nI 2) (by decide) ?_
  refine kw_iadd (pc := 161) C dL_law_161 (z := nI (i + 2)) (nI_add _ _) ?_
  refine kw_sld (pc := 162) C hX hbl hbA dL_law_162 (i + 2) rfl (by omega) (by omega) ?_
  refine kw_calli (pc := 163) (wv := wC Z A) (wr := wM Z B τ) C hN hSW dL_law_163 (c_X6_gear l D Z A σ X F ck co K nn Bt Lt (xs (i + 1)) (xs (i + 2)) hC hI) (cwV 2 C.1.2.2.2.2 gL_law_X6_gear rfl rfl rfl (by decide +kernel) ⟨Nat.le_of_ble_eq_true rfl, Nat.le_of_ble_eq_true rfl⟩) [0, 1, 2, 3, 4, 5, 6, 7, 8, 9, 10, 11, 12, 13, 14, 15, 16, 17, 18, 19, 20, 21] [22, 23, 24, 25, 26, 27, 28, 29, 30, 31, 32] rfl rfl rfl (by decide) (by decide) (by decide) rfl rfl rfl rfl (Nat.le_of_ble_eq_true rfl) h1 h2 (fun r1 σ1 hr1 => ?_)
  refine kw_aload_n (pc := 166) C dL_law_166 rfl 2 rfl ?_
  refine kw_aload_n (pc := 167) C dL_law_167 rfl 0 rfl ?_
  refine kw_iload_n (pc := 168) C dL_law_168 rfl 3 rfl ?_
  refine kw_iconst (pc := 169) C dL_law_169 (nI 1) (by decide) ?_
  refine kw_iadd (pc := 170) C dL_law_170 (z := nI (i + 1)) (nI_add _ _) ?_
  refine kw_sld (pc := 171) C hX hbl hbA dL_law_171 (i + 1) rfl (by omega) (by omega) ?_
  refine kw_aload_n (pc := 172) C dL_law_172 rfl 0 rfl ?_
  refine kw_iload_n (pc := 173) C dL_law_173 rfl 3 rfl ?_
  refine kw_iconst (pc := 174) C dL_law_174 (nI 2) (by decide) ?_
  refine kw_iadd (pc := 175) C dL_law_175 (z := nI (i + 2)) (nI_add _ _) ?_
  refine kw_sld (pc := 176) C hX hbl hbA dL_law_176 (i + 2) rfl (by omega) (by omega) ?_
  refine kw_calli (pc := 177) (wv := wM Z B) (wr := wC Z A σ1) C hN hSW dL_law_177 (c_X7_gear l D Z B τ X F ck co K nn Bt Lt (xs (i + 1)) (xs (i + 2)) hM hO hnn) (cwV 2 C.1.2.2.2.2 gL_law_X7_gear rfl rfl rfl (by decide +kernel) ⟨Nat.le_of_ble_eq_true rfl, Nat.le_of_ble_eq_true rfl⟩) [0, 1, 2, 3, 4, 5, 6, 7, 8, 9, 10] [11, 12, 13, 14, 15, 16, 17, 18, 19, 20, 21, 22, 23, 24, 25, 26, 27, 28, 29, 30, 31, 32] rfl rfl rfl (by decide) (by decide) (by decide) rfl rfl rfl rfl (Nat.le_of_ble_eq_true rfl) h1 h2 (fun r2 τ1 hr2 => ?_)
  have hq := Lsm_ch (o := 0) (a := (xs (i + 1))) (b := (xs (i + 2))) (by decide) hI hr1 hr2
  exact kw_icmp_eq (pc := 180) (tgt := 881) C dL_law_180 (by decide) (fun _ => hnext _ _ hq.2) (fun h => absurd hq.1 h)
set_option maxHeartbeats 4000000 in
set_option maxRecDepth 100000 in
theorem law_1 {p : Program} {l : Launch} {e : Env} {s : State} {m : MethodId} {g : Array Value} {below : List Frame} {meth : Method} {c : Code} {D : va_G} {Z : CZ} {A0 : Nat → Prop} {Q : State → Prop} {mc ms : Nat} (C : KX p s m g c cL_law 4 wsL_law RL D Z A0) (hN : NWs s) (hSW : SW Z A0 s s.heap) {b L : Nat} {xs : Nat → Int32} (hX : va_X b L xs s s.heap) (hbl : b < s.heap.size) (hbA : ¬ A0 b) (hL : L ≤ 2048) (h1 : mc + 0 ≤ room_1.cells) (h2 : ms + 0 ≤ room_1.slots) {A B : Nat → Nat} {i : Nat} (hi : i + 4 ≤ L) {σ τ : St} (h : Lsm σ τ) (hnext : ∀ σ' τ', Lsm σ' τ' → KW p l e room_1 s m g below meth c D A0 4 Q (wC Z A σ' ++ wM Z B τ') mc ms 881 [(0, .ref b), (1, .ref (A 0)), (2, .ref (B 0)), (3, .int (nI i))] []) : KW p l e room_1 s m g below meth c D A0 4 Q (wC Z A σ ++ wM Z B τ) mc ms 185 [(0, .ref b), (1, .ref (A 0)), (2, .ref (B 0)), (3, .int (nI i))] [] := by
  obtain ⟨X, F, ck, co, K, nn, Bt, Lt, hC, hI, hM⟩ := h
  obtain ⟨hO, hKO, hnn, hLt, hBt⟩ := id hI
  refine kw_aload_n (pc := 185) C dL_law_185 rfl 1 rfl ?_
  refine kw_aload_n (pc := 186) C dL_law_186 rfl 0 rfl ?_
  refine kw_iload_n (pc := 187) C dL_law_187 rfl 3 rfl ?_
  refine kw_iconst (pc := 188) C dL_law_188 (nI 1) (by decide) ?_
  refine kw_iadd (pc := 189) C dL_law_189 (z := nI (i + 1)) (nI_add _ _) ?_
  refine kw_sld (pc := 190) C hX hbl hbA dL_law_190 (i + 1) rfl (by omega) (by omega) ?_
  refine kw_aload_n (pc := 191) C dL_law_191 rfl 0 rfl ?_
  refine kw_iload_n (pc := 192) C dL_law_192 rfl 3 rfl ?_
  refine kw_iconst (pc := 193) C dL_law_193 (nI 2) (by decide) ?_
  refine kw_iadd (pc := 194) C dL_law_194 (z := nI (i + 2)) (nI_add _ _) ?_
  refine kw_sld (pc := 195) C hX hbl hbA dL_law_195 (i + 2) rfl (by omega) (by omega) ?_
  refine kw_calli (pc := 196) (wv := wC Z A) (wr := wM Z B τ) C hN hSW dL_law_196 (c_X6_fails l D Z A σ X F ck co K nn Bt Lt (xs (i + 1)) (xs (i + 2)) hC hI) (cwV 2 C.1.2.2.2.2 gL_law_X6_fails rfl rfl rfl (by decide +kernel) ⟨Nat.le_of_ble_eq_true rfl, Nat.le_of_ble_eq_true rfl⟩) [0, 1, 2, 3, 4, 5, 6, 7, 8, 9, 10, 11, 12, 13, 14, 15, 16, 17, 18, 19, 20, 21] [22, 23, 24, 25, 26, 27, 28, 29, 30, 31, 32] rfl rfl rfl (by decide) (by decide) (by decide) rfl rfl rfl rfl (Nat.le_of_ble_eq_true rfl) h1 h2 (fun r1 σ1 hr1 => ?_)
  refine kw_aload_n (pc := 199) C dL_law_199 rfl 2 rfl ?_
  refine kw_aload_n (pc := 200) C dL_law_200 rfl 0 rfl ?_
  refine kw_iload_n (pc := 201) C dL_law_201 rfl 3 rfl ?_
  refine kw_iconst (pc := 202) C dL_law_202 (nI 1) (by decide) ?_
  refine kw_iadd (pc := 203) C dL_law_203 (z := nI (i + 1)) (nI_add _ _) ?_
  refine kw_sld (pc := 204) C hX hbl hbA dL_law_204 (i + 1) rfl (by omega) (by omega) ?_
  refine kw_aload_n (pc := 205) C dL_law_205 rfl 0 rfl ?_
  refine kw_iload_n (pc := 206) C dL_law_206 rfl 3 rfl ?_
  refine kw_iconst (pc := 207) C dL_law_207 (nI 2) (by decide) ?_
  refine kw_iadd (pc := 208) C dL_law_208 (z := nI (i + 2)) (nI_add _ _) ?_
  refine kw_sld (pc := 209) C hX hbl hbA dL_law_209 (i + 2) rfl (by omega) (by omega) ?_
  refine kw_calli (pc := 210) (wv := wM Z B) (wr := wC Z A σ1) C hN hSW dL_law_210 (c_X7_fails l D Z B τ X F ck co K nn Bt Lt (xs (i + 1)) (xs (i + 2)) hM hO hnn) (cwV 2 C.1.2.2.2.2 gL_law_X7_fails rfl rfl rfl (by decide +kernel) ⟨Nat.le_of_ble_eq_true rfl, Nat.le_of_ble_eq_true rfl⟩) [0, 1, 2, 3, 4, 5, 6, 7, 8, 9, 10] [11, 12, 13, 14, 15, 16, 17, 18, 19, 20, 21, 22, 23, 24, 25, 26, 27, 28, 29, 30, 31, 32] rfl rfl rfl (by decide) (by decide) (by decide) rfl rfl rfl rfl (Nat.le_of_ble_eq_true rfl) h1 h2 (fun r2 τ1 hr2 => ?_)
  have hq := Lsm_ch (o := 1) (a := (xs (i + 1))) (b := (xs (i + 2))) (by decide) hI hr1 hr2
  exact kw_icmp_eq (pc := 213) (tgt := 881) C dL_law_213 (by decide) (fun _ => hnext _ _ hq.2) (fun h => absurd hq.1 h)
set_option maxHeartbeats 4000000 in
set_option maxRecDepth 100000 in
theorem law_2 {p : Program} {l : Launch} {e : Env} {s : State} {m : MethodId} {g : Array Value} {below : List Frame} {meth : Method} {c : Code} {D : va_G} {Z : CZ} {A0 : Nat → Prop} {Q : State → Prop} {mc ms : Nat} (C : KX p s m g c cL_law 4 wsL_law RL D Z A0) (hN : NWs s) (hSW : SW Z A0 s s.heap) {b L : Nat} {xs : Nat → Int32} (hX : va_X b L xs s s.heap) (hbl : b < s.heap.size) (hbA : ¬ A0 b) (hL : L ≤ 2048) (h1 : mc + 0 ≤ room_1.cells) (h2 : ms + 0 ≤ room_1.slots) {A B : Nat → Nat} {i : Nat} (hi : i + 4 ≤ L) {σ τ : St} (h : Lsm σ τ) (hnext : ∀ σ' τ', Lsm σ' τ' → KW p l e room_1 s m g below meth c D A0 4 Q (wC Z A σ' ++ wM Z B τ') mc ms 881 [(0, .ref b), (1, .ref (A 0)), (2, .ref (B 0)), (3, .int (nI i))] []) : KW p l e room_1 s m g below meth c D A0 4 Q (wC Z A σ ++ wM Z B τ) mc ms 218 [(0, .ref b), (1, .ref (A 0)), (2, .ref (B 0)), (3, .int (nI i))] [] := by
  obtain ⟨X, F, ck, co, K, nn, Bt, Lt, hC, hI, hM⟩ := h
  obtain ⟨hO, hKO, hnn, hLt, hBt⟩ := id hI
  refine kw_aload_n (pc := 218) C dL_law_218 rfl 1 rfl ?_
  refine kw_aload_n (pc := 219) C dL_law_219 rfl 0 rfl ?_
  refine kw_iload_n (pc := 220) C dL_law_220 rfl 3 rfl ?_
  refine kw_iconst (pc := 221) C dL_law_221 (nI 1) (by decide) ?_
  refine kw_iadd (pc := 222) C dL_law_222 (z := nI (i + 1)) (nI_add _ _) ?_
  refine kw_sld (pc := 223) C hX hbl hbA dL_law_223 (i + 1) rfl (by omega) (by omega) ?_
  refine kw_aload_n (pc := 224) C dL_law_224 rfl 0 rfl ?_
  refine kw_iload_n (pc := 225) C dL_law_225 rfl 3 rfl ?_
  refine kw_iconst (pc := 226) C dL_law_226 (nI 2) (by decide) ?_
  refine kw_iadd (pc := 227) C dL_law_227 (z := nI (i + 2)) (nI_add _ _) ?_
  refine kw_sld (pc := 228) C hX hbl hbA dL_law_228 (i + 2) rfl (by omega) (by omega) ?_
  refine kw_calli (pc := 229) (wv := wC Z A) (wr := wM Z B τ) C hN hSW dL_law_229 (c_X6_trues l D Z A σ X F ck co K nn Bt Lt (xs (i + 1)) (xs (i + 2)) hC hI) (cwV 2 C.1.2.2.2.2 gL_law_X6_trues rfl rfl rfl (by decide +kernel) ⟨Nat.le_of_ble_eq_true rfl, Nat.le_of_ble_eq_true rfl⟩) [0, 1, 2, 3, 4, 5, 6, 7, 8, 9, 10, 11, 12, 13, 14, 15, 16, 17, 18, 19, 20, 21] [22, 23, 24, 25, 26, 27, 28, 29, 30, 31, 32] rfl rfl rfl (by decide) (by decide) (by decide) rfl rfl rfl rfl (Nat.le_of_ble_eq_true rfl) h1 h2 (fun r1 σ1 hr1 => ?_)
  refine kw_aload_n (pc := 232) C dL_law_232 rfl 2 rfl ?_
  refine kw_aload_n (pc := 233) C dL_law_233 rfl 0 rfl ?_
  refine kw_iload_n (pc := 234) C dL_law_234 rfl 3 rfl ?_
  refine kw_iconst (pc := 235) C dL_law_235 (nI 1) (by decide) ?_
  refine kw_iadd (pc := 236) C dL_law_236 (z := nI (i + 1)) (nI_add _ _) ?_
  refine kw_sld (pc := 237) C hX hbl hbA dL_law_237 (i + 1) rfl (by omega) (by omega) ?_
  refine kw_aload_n (pc := 238) C dL_law_238 rfl 0 rfl ?_
  refine kw_iload_n (pc := 239) C dL_law_239 rfl 3 rfl ?_
  refine kw_iconst (pc := 240) C dL_law_240 (nI 2) (by decide) ?_
  refine kw_iadd (pc := 241) C dL_law_241 (z := nI (i + 2)) (nI_add _ _) ?_
  refine kw_sld (pc := 242) C hX hbl hbA dL_law_242 (i + 2) rfl (by omega) (by omega) ?_
  refine kw_calli (pc := 243) (wv := wM Z B) (wr := wC Z A σ1) C hN hSW dL_law_243 (c_X7_trues l D Z B τ X F ck co K nn Bt Lt (xs (i + 1)) (xs (i + 2)) hM hO hnn) (cwV 2 C.1.2.2.2.2 gL_law_X7_trues rfl rfl rfl (by decide +kernel) ⟨Nat.le_of_ble_eq_true rfl, Nat.le_of_ble_eq_true rfl⟩) [0, 1, 2, 3, 4, 5, 6, 7, 8, 9, 10] [11, 12, 13, 14, 15, 16, 17, 18, 19, 20, 21, 22, 23, 24, 25, 26, 27, 28, 29, 30, 31, 32] rfl rfl rfl (by decide) (by decide) (by decide) rfl rfl rfl rfl (Nat.le_of_ble_eq_true rfl) h1 h2 (fun r2 τ1 hr2 => ?_)
  have hq := Lsm_ch (o := 2) (a := (xs (i + 1))) (b := (xs (i + 2))) (by decide) hI hr1 hr2
  exact kw_icmp_eq (pc := 246) (tgt := 881) C dL_law_246 (by decide) (fun _ => hnext _ _ hq.2) (fun h => absurd hq.1 h)
set_option maxHeartbeats 4000000 in
set_option maxRecDepth 100000 in
theorem law_3 {p : Program} {l : Launch} {e : Env} {s : State} {m : MethodId} {g : Array Value} {below : List Frame} {meth : Method} {c : Code} {D : va_G} {Z : CZ} {A0 : Nat → Prop} {Q : State → Prop} {mc ms : Nat} (C : KX p s m g c cL_law 4 wsL_law RL D Z A0) (hN : NWs s) (hSW : SW Z A0 s s.heap) {b L : Nat} {xs : Nat → Int32} (hX : va_X b L xs s s.heap) (hbl : b < s.heap.size) (hbA : ¬ A0 b) (hL : L ≤ 2048) (h1 : mc + 0 ≤ room_1.cells) (h2 : ms + 0 ≤ room_1.slots) {A B : Nat → Nat} {i : Nat} (hi : i + 4 ≤ L) {σ τ : St} (h : Lsm σ τ) (hnext : ∀ σ' τ', Lsm σ' τ' → KW p l e room_1 s m g below meth c D A0 4 Q (wC Z A σ' ++ wM Z B τ') mc ms 881 [(0, .ref b), (1, .ref (A 0)), (2, .ref (B 0)), (3, .int (nI i))] []) : KW p l e room_1 s m g below meth c D A0 4 Q (wC Z A σ ++ wM Z B τ) mc ms 251 [(0, .ref b), (1, .ref (A 0)), (2, .ref (B 0)), (3, .int (nI i))] [] := by
  obtain ⟨X, F, ck, co, K, nn, Bt, Lt, hC, hI, hM⟩ := h
  obtain ⟨hO, hKO, hnn, hLt, hBt⟩ := id hI
  refine kw_aload_n (pc := 251) C dL_law_251 rfl 1 rfl ?_
  refine kw_aload_n (pc := 252) C dL_law_252 rfl 0 rfl ?_
  refine kw_iload_n (pc := 253) C dL_law_253 rfl 3 rfl ?_
  refine kw_iconst (pc := 254) C dL_law_254 (nI 1) (by decide) ?_
  refine kw_iadd (pc := 255) C dL_law_255 (z := nI (i + 1)) (nI_add _ _) ?_
  refine kw_sld (pc := 256) C hX hbl hbA dL_law_256 (i + 1) rfl (by omega) (by omega) ?_
  refine kw_aload_n (pc := 257) C dL_law_257 rfl 0 rfl ?_
  refine kw_iload_n (pc := 258) C dL_law_258 rfl 3 rfl ?_
  refine kw_iconst (pc := 259) C dL_law_259 (nI 2) (by decide) ?_
  refine kw_iadd (pc := 260) C dL_law_260 (z := nI (i + 2)) (nI_add _ _) ?_
  refine kw_sld (pc := 261) C hX hbl hbA dL_law_261 (i + 2) rfl (by omega) (by omega) ?_
  refine kw_calli (pc := 262) (wv := wC Z A) (wr := wM Z B τ) C hN hSW dL_law_262 (c_X6_up l D Z A σ X F ck co K nn Bt Lt (xs (i + 1)) (xs (i + 2)) hC hI) (cwV 2 C.1.2.2.2.2 gL_law_X6_up rfl rfl rfl (by decide +kernel) ⟨Nat.le_of_ble_eq_true rfl, Nat.le_of_ble_eq_true rfl⟩) [0, 1, 2, 3, 4, 5, 6, 7, 8, 9, 10, 11, 12, 13, 14, 15, 16, 17, 18, 19, 20, 21] [22, 23, 24, 25, 26, 27, 28, 29, 30, 31, 32] rfl rfl rfl (by decide) (by decide) (by decide) rfl rfl rfl rfl (Nat.le_of_ble_eq_true rfl) h1 h2 (fun r1 σ1 hr1 => ?_)
  refine kw_aload_n (pc := 265) C dL_law_265 rfl 2 rfl ?_
  refine kw_aload_n (pc := 266) C dL_law_266 rfl 0 rfl ?_
  refine kw_iload_n (pc := 267) C dL_law_267 rfl 3 rfl ?_
  refine kw_iconst (pc := 268) C dL_law_268 (nI 1) (by decide) ?_
  refine kw_iadd (pc := 269) C dL_law_269 (z := nI (i + 1)) (nI_add _ _) ?_
  refine kw_sld (pc := 270) C hX hbl hbA dL_law_270 (i + 1) rfl (by omega) (by omega) ?_
  refine kw_aload_n (pc := 271) C dL_law_271 rfl 0 rfl ?_
  refine kw_iload_n (pc := 272) C dL_law_272 rfl 3 rfl ?_
  refine kw_iconst (pc := 273) C dL_law_273 (nI 2) (by decide) ?_
  refine kw_iadd (pc := 274) C dL_law_274 (z := nI (i + 2)) (nI_add _ _) ?_
  refine kw_sld (pc := 275) C hX hbl hbA dL_law_275 (i + 2) rfl (by omega) (by omega) ?_
  refine kw_calli (pc := 276) (wv := wM Z B) (wr := wC Z A σ1) C hN hSW dL_law_276 (c_X7_up l D Z B τ X F ck co K nn Bt Lt (xs (i + 1)) (xs (i + 2)) hM hO hnn) (cwV 2 C.1.2.2.2.2 gL_law_X7_up rfl rfl rfl (by decide +kernel) ⟨Nat.le_of_ble_eq_true rfl, Nat.le_of_ble_eq_true rfl⟩) [0, 1, 2, 3, 4, 5, 6, 7, 8, 9, 10] [11, 12, 13, 14, 15, 16, 17, 18, 19, 20, 21, 22, 23, 24, 25, 26, 27, 28, 29, 30, 31, 32] rfl rfl rfl (by decide) (by decide) (by decide) rfl rfl rfl rfl (Nat.le_of_ble_eq_true rfl) h1 h2 (fun r2 τ1 hr2 => ?_)
  have hq := Lsm_ch (o := 3) (a := (xs (i + 1))) (b := (xs (i + 2))) (by decide) hI hr1 hr2
  exact kw_icmp_eq (pc := 279) (tgt := 881) C dL_law_279 (by decide) (fun _ => hnext _ _ hq.2) (fun h => absurd hq.1 h)
set_option maxHeartbeats 4000000 in
set_option maxRecDepth 100000 in
theorem law_4 {p : Program} {l : Launch} {e : Env} {s : State} {m : MethodId} {g : Array Value} {below : List Frame} {meth : Method} {c : Code} {D : va_G} {Z : CZ} {A0 : Nat → Prop} {Q : State → Prop} {mc ms : Nat} (C : KX p s m g c cL_law 4 wsL_law RL D Z A0) (hN : NWs s) (hSW : SW Z A0 s s.heap) {b L : Nat} {xs : Nat → Int32} (hX : va_X b L xs s s.heap) (hbl : b < s.heap.size) (hbA : ¬ A0 b) (hL : L ≤ 2048) (h1 : mc + 0 ≤ room_1.cells) (h2 : ms + 0 ≤ room_1.slots) {A B : Nat → Nat} {i : Nat} (hi : i + 4 ≤ L) {σ τ : St} (h : Lsm σ τ) (hnext : ∀ σ' τ', Lsm σ' τ' → KW p l e room_1 s m g below meth c D A0 4 Q (wC Z A σ' ++ wM Z B τ') mc ms 881 [(0, .ref b), (1, .ref (A 0)), (2, .ref (B 0)), (3, .int (nI i))] []) : KW p l e room_1 s m g below meth c D A0 4 Q (wC Z A σ ++ wM Z B τ) mc ms 284 [(0, .ref b), (1, .ref (A 0)), (2, .ref (B 0)), (3, .int (nI i))] [] := by
  obtain ⟨X, F, ck, co, K, nn, Bt, Lt, hC, hI, hM⟩ := h
  obtain ⟨hO, hKO, hnn, hLt, hBt⟩ := id hI
  refine kw_aload_n (pc := 284) C dL_law_284 rfl 1 rfl ?_
  refine kw_aload_n (pc := 285) C dL_law_285 rfl 0 rfl ?_
  refine kw_iload_n (pc := 286) C dL_law_286 rfl 3 rfl ?_
  refine kw_iconst (pc := 287) C dL_law_287 (nI 1) (by decide) ?_
  refine kw_iadd (pc := 288) C dL_law_288 (z := nI (i + 1)) (nI_add _ _) ?_
  refine kw_sld (pc := 289) C hX hbl hbA dL_law_289 (i + 1) rfl (by omega) (by omega) ?_
  refine kw_aload_n (pc := 290) C dL_law_290 rfl 0 rfl ?_
  refine kw_iload_n (pc := 291) C dL_law_291 rfl 3 rfl ?_
  refine kw_iconst (pc := 292) C dL_law_292 (nI 2) (by decide) ?_
  refine kw_iadd (pc := 293) C dL_law_293 (z := nI (i + 2)) (nI_add _ _) ?_
  refine kw_sld (pc := 294) C hX hbl hbA dL_law_294 (i + 2) rfl (by omega) (by omega) ?_
  refine kw_calli (pc := 295) (wv := wC Z A) (wr := wM Z B τ) C hN hSW dL_law_295 (c_X6_down l D Z A σ X F ck co K nn Bt Lt (xs (i + 1)) (xs (i + 2)) hC hI) (cwV 2 C.1.2.2.2.2 gL_law_X6_down rfl rfl rfl (by decide +kernel) ⟨Nat.le_of_ble_eq_true rfl, Nat.le_of_ble_eq_true rfl⟩) [0, 1, 2, 3, 4, 5, 6, 7, 8, 9, 10, 11, 12, 13, 14, 15, 16, 17, 18, 19, 20, 21] [22, 23, 24, 25, 26, 27, 28, 29, 30, 31, 32] rfl rfl rfl (by decide) (by decide) (by decide) rfl rfl rfl rfl (Nat.le_of_ble_eq_true rfl) h1 h2 (fun r1 σ1 hr1 => ?_)
  refine kw_aload_n (pc := 298) C dL_law_298 rfl 2 rfl ?_
  refine kw_aload_n (pc := 299) C dL_law_299 rfl 0 rfl ?_
  refine kw_iload_n (pc := 300) C dL_law_300 rfl 3 rfl ?_
  refine kw_iconst (pc := 301) C dL_law_301 (nI 1) (by decide) ?_
  refine kw_iadd (pc := 302) C dL_law_302 (z := nI (i + 1)) (nI_add _ _) ?_
  refine kw_sld (pc := 303) C hX hbl hbA dL_law_303 (i + 1) rfl (by omega) (by omega) ?_
  refine kw_aload_n (pc := 304) C dL_law_304 rfl 0 rfl ?_
  refine kw_iload_n (pc := 305) C dL_law_305 rfl 3 rfl ?_
  refine kw_iconst (pc := 306) C dL_law_306 (nI 2) (by decide) ?_
  refine kw_iadd (pc := 307) C dL_law_307 (z := nI (i + 2)) (nI_add _ _) ?_
  refine kw_sld (pc := 308) C hX hbl hbA dL_law_308 (i + 2) rfl (by omega) (by omega) ?_
  refine kw_calli (pc := 309) (wv := wM Z B) (wr := wC Z A σ1) C hN hSW dL_law_309 (c_X7_down l D Z B τ X F ck co K nn Bt Lt (xs (i + 1)) (xs (i + 2)) hM hO hnn) (cwV 2 C.1.2.2.2.2 gL_law_X7_down rfl rfl rfl (by decide +kernel) ⟨Nat.le_of_ble_eq_true rfl, Nat.le_of_ble_eq_true rfl⟩) [0, 1, 2, 3, 4, 5, 6, 7, 8, 9, 10] [11, 12, 13, 14, 15, 16, 17, 18, 19, 20, 21, 22, 23, 24, 25, 26, 27, 28, 29, 30, 31, 32] rfl rfl rfl (by decide) (by decide) (by decide) rfl rfl rfl rfl (Nat.le_of_ble_eq_true rfl) h1 h2 (fun r2 τ1 hr2 => ?_)
  have hq := Lsm_ch (o := 4) (a := (xs (i + 1))) (b := (xs (i + 2))) (by decide) hI hr1 hr2
  exact kw_icmp_eq (pc := 312) (tgt := 881) C dL_law_312 (by decide) (fun _ => hnext _ _ hq.2) (fun h => absurd hq.1 h)
set_option maxHeartbeats 4000000 in
set_option maxRecDepth 100000 in
theorem law_5 {p : Program} {l : Launch} {e : Env} {s : State} {m : MethodId} {g : Array Value} {below : List Frame} {meth : Method} {c : Code} {D : va_G} {Z : CZ} {A0 : Nat → Prop} {Q : State → Prop} {mc ms : Nat} (C : KX p s m g c cL_law 4 wsL_law RL D Z A0) (hN : NWs s) (hSW : SW Z A0 s s.heap) {b L : Nat} {xs : Nat → Int32} (hX : va_X b L xs s s.heap) (hbl : b < s.heap.size) (hbA : ¬ A0 b) (hL : L ≤ 2048) (h1 : mc + 0 ≤ room_1.cells) (h2 : ms + 0 ≤ room_1.slots) {A B : Nat → Nat} {i : Nat} (hi : i + 4 ≤ L) {σ τ : St} (h : Lsm σ τ) (hnext : ∀ σ' τ', Lsm σ' τ' → KW p l e room_1 s m g below meth c D A0 4 Q (wC Z A σ' ++ wM Z B τ') mc ms 881 [(0, .ref b), (1, .ref (A 0)), (2, .ref (B 0)), (3, .int (nI i))] []) : KW p l e room_1 s m g below meth c D A0 4 Q (wC Z A σ ++ wM Z B τ) mc ms 317 [(0, .ref b), (1, .ref (A 0)), (2, .ref (B 0)), (3, .int (nI i))] [] := by
  obtain ⟨X, F, ck, co, K, nn, Bt, Lt, hC, hI, hM⟩ := h
  obtain ⟨hO, hKO, hnn, hLt, hBt⟩ := id hI
  refine kw_aload_n (pc := 317) C dL_law_317 rfl 1 rfl ?_
  refine kw_aload_n (pc := 318) C dL_law_318 rfl 0 rfl ?_
  refine kw_iload_n (pc := 319) C dL_law_319 rfl 3 rfl ?_
  refine kw_iconst (pc := 320) C dL_law_320 (nI 1) (by decide) ?_
  refine kw_iadd (pc := 321) C dL_law_321 (z := nI (i + 1)) (nI_add _ _) ?_
  refine kw_sld (pc := 322) C hX hbl hbA dL_law_322 (i + 1) rfl (by omega) (by omega) ?_
  refine kw_calli (pc := 323) (wv := wC Z A) (wr := wM Z B τ) C hN hSW dL_law_323 (c_X6_slope l D Z A σ X F ck co K nn Bt Lt (xs (i + 1)) hC hI) (cwV 1 C.1.2.2.2.2 gL_law_X6_slope rfl rfl rfl (by decide +kernel) ⟨Nat.le_of_ble_eq_true rfl, Nat.le_of_ble_eq_true rfl⟩) [0, 1, 2, 3, 4, 5, 6, 7, 8, 9, 10, 11, 12, 13, 14, 15, 16, 17, 18, 19, 20, 21] [22, 23, 24, 25, 26, 27, 28, 29, 30, 31, 32] rfl rfl rfl (by decide) (by decide) (by decide) rfl rfl rfl rfl (Nat.le_of_ble_eq_true rfl) h1 h2 (fun r1 σ1 hr1 => ?_)
  refine kw_aload_n (pc := 326) C dL_law_326 rfl 2 rfl ?_
  refine kw_aload_n (pc := 327) C dL_law_327 rfl 0 rfl ?_
  refine kw_iload_n (pc := 328) C dL_law_328 rfl 3 rfl ?_
  refine kw_iconst (pc := 329) C dL_law_329 (nI 1) (by decide) ?_
  refine kw_iadd (pc := 330) C dL_law_330 (z := nI (i + 1)) (nI_add _ _) ?_
  refine kw_sld (pc := 331) C hX hbl hbA dL_law_331 (i + 1) rfl (by omega) (by omega) ?_
  refine kw_calli (pc := 332) (wv := wM Z B) (wr := wC Z A σ1) C hN hSW dL_law_332 (c_X7_slope l D Z B τ X F ck co K nn Bt Lt (xs (i + 1)) hM hO hnn) (cwV 1 C.1.2.2.2.2 gL_law_X7_slope rfl rfl rfl (by decide +kernel) ⟨Nat.le_of_ble_eq_true rfl, Nat.le_of_ble_eq_true rfl⟩) [0, 1, 2, 3, 4, 5, 6, 7, 8, 9, 10] [11, 12, 13, 14, 15, 16, 17, 18, 19, 20, 21, 22, 23, 24, 25, 26, 27, 28, 29, 30, 31, 32] rfl rfl rfl (by decide) (by decide) (by decide) rfl rfl rfl rfl (Nat.le_of_ble_eq_true rfl) h1 h2 (fun r2 τ1 hr2 => ?_)
  have hq := Lsm_ch (o := 5) (a := (xs (i + 1))) (b := nI 0) (by decide) hI hr1 hr2
  exact kw_icmp_eq (pc := 335) (tgt := 881) C dL_law_335 (by decide) (fun _ => hnext _ _ hq.2) (fun h => absurd hq.1 h)
set_option maxHeartbeats 4000000 in
set_option maxRecDepth 100000 in
theorem law_6 {p : Program} {l : Launch} {e : Env} {s : State} {m : MethodId} {g : Array Value} {below : List Frame} {meth : Method} {c : Code} {D : va_G} {Z : CZ} {A0 : Nat → Prop} {Q : State → Prop} {mc ms : Nat} (C : KX p s m g c cL_law 4 wsL_law RL D Z A0) (hN : NWs s) (hSW : SW Z A0 s s.heap) {b L : Nat} {xs : Nat → Int32} (hX : va_X b L xs s s.heap) (hbl : b < s.heap.size) (hbA : ¬ A0 b) (hL : L ≤ 2048) (h1 : mc + 0 ≤ room_1.cells) (h2 : ms + 0 ≤ room_1.slots) {A B : Nat → Nat} {i : Nat} (hi : i + 4 ≤ L) {σ τ : St} (h : Lsm σ τ) (hnext : ∀ σ' τ', Lsm σ' τ' → KW p l e room_1 s m g below meth c D A0 4 Q (wC Z A σ' ++ wM Z B τ') mc ms 881 [(0, .ref b), (1, .ref (A 0)), (2, .ref (B 0)), (3, .int (nI i))] []) : KW p l e room_1 s m g below meth c D A0 4 Q (wC Z A σ ++ wM Z B τ) mc ms 340 [(0, .ref b), (1, .ref (A 0)), (2, .ref (B 0)), (3, .int (nI i))] [] := by
  obtain ⟨X, F, ck, co, K, nn, Bt, Lt, hC, hI, hM⟩ := h
  obtain ⟨hO, hKO, hnn, hLt, hBt⟩ := id hI
  refine kw_aload_n (pc := 340) C dL_law_340 rfl 1 rfl ?_
  refine kw_aload_n (pc := 341) C dL_law_341 rfl 0 rfl ?_
  refine kw_iload_n (pc := 342) C dL_law_342 rfl 3 rfl ?_
  refine kw_iconst (pc := 343) C dL_law_343 (nI 1) (by decide) ?_
  refine kw_iadd (pc := 344) C dL_law_344 (z := nI (i + 1)) (nI_add _ _) ?_
  refine kw_sld (pc := 345) C hX hbl hbA dL_law_345 (i + 1) rfl (by omega) (by omega) ?_
  refine kw_calli (pc := 346) (wv := wC Z A) (wr := wM Z B τ) C hN hSW dL_law_346 (c_X6_driver l D Z A σ X F ck co K nn Bt Lt (xs (i + 1)) hC hI) (cwV 1 C.1.2.2.2.2 gL_law_X6_driver rfl rfl rfl (by decide +kernel) ⟨Nat.le_of_ble_eq_true rfl, Nat.le_of_ble_eq_true rfl⟩) [0, 1, 2, 3, 4, 5, 6, 7, 8, 9, 10, 11, 12, 13, 14, 15, 16, 17, 18, 19, 20, 21] [22, 23, 24, 25, 26, 27, 28, 29, 30, 31, 32] rfl rfl rfl (by decide) (by decide) (by decide) rfl rfl rfl rfl (Nat.le_of_ble_eq_true rfl) h1 h2 (fun r1 σ1 hr1 => ?_)
  refine kw_aload_n (pc := 349) C dL_law_349 rfl 2 rfl ?_
  refine kw_aload_n (pc := 350) C dL_law_350 rfl 0 rfl ?_
  refine kw_iload_n (pc := 351) C dL_law_351 rfl 3 rfl ?_
  refine kw_iconst (pc := 352) C dL_law_352 (nI 1) (by decide) ?_
  refine kw_iadd (pc := 353) C dL_law_353 (z := nI (i + 1)) (nI_add _ _) ?_
  refine kw_sld (pc := 354) C hX hbl hbA dL_law_354 (i + 1) rfl (by omega) (by omega) ?_
  refine kw_calli (pc := 355) (wv := wM Z B) (wr := wC Z A σ1) C hN hSW dL_law_355 (c_X7_driver l D Z B τ X F ck co K nn Bt Lt (xs (i + 1)) hM hO hnn) (cwV 1 C.1.2.2.2.2 gL_law_X7_driver rfl rfl rfl (by decide +kernel) ⟨Nat.le_of_ble_eq_true rfl, Nat.le_of_ble_eq_true rfl⟩) [0, 1, 2, 3, 4, 5, 6, 7, 8, 9, 10] [11, 12, 13, 14, 15, 16, 17, 18, 19, 20, 21, 22, 23, 24, 25, 26, 27, 28, 29, 30, 31, 32] rfl rfl rfl (by decide) (by decide) (by decide) rfl rfl rfl rfl (Nat.le_of_ble_eq_true rfl) h1 h2 (fun r2 τ1 hr2 => ?_)
  have hq := Lsm_ch (o := 6) (a := (xs (i + 1))) (b := nI 0) (by decide) hI hr1 hr2
  exact kw_icmp_eq (pc := 358) (tgt := 881) C dL_law_358 (by decide) (fun _ => hnext _ _ hq.2) (fun h => absurd hq.1 h)
set_option maxHeartbeats 4000000 in
set_option maxRecDepth 100000 in
theorem law_7 {p : Program} {l : Launch} {e : Env} {s : State} {m : MethodId} {g : Array Value} {below : List Frame} {meth : Method} {c : Code} {D : va_G} {Z : CZ} {A0 : Nat → Prop} {Q : State → Prop} {mc ms : Nat} (C : KX p s m g c cL_law 4 wsL_law RL D Z A0) (hN : NWs s) (hSW : SW Z A0 s s.heap) {b L : Nat} {xs : Nat → Int32} (hX : va_X b L xs s s.heap) (hbl : b < s.heap.size) (hbA : ¬ A0 b) (hL : L ≤ 2048) (h1 : mc + 0 ≤ room_1.cells) (h2 : ms + 0 ≤ room_1.slots) {A B : Nat → Nat} {i : Nat} (hi : i + 4 ≤ L) {σ τ : St} (h : Lsm σ τ) (hnext : ∀ σ' τ', Lsm σ' τ' → KW p l e room_1 s m g below meth c D A0 4 Q (wC Z A σ' ++ wM Z B τ') mc ms 881 [(0, .ref b), (1, .ref (A 0)), (2, .ref (B 0)), (3, .int (nI i))] []) : KW p l e room_1 s m g below meth c D A0 4 Q (wC Z A σ ++ wM Z B τ) mc ms 363 [(0, .ref b), (1, .ref (A 0)), (2, .ref (B 0)), (3, .int (nI i))] [] := by
  obtain ⟨X, F, ck, co, K, nn, Bt, Lt, hC, hI, hM⟩ := h
  obtain ⟨hO, hKO, hnn, hLt, hBt⟩ := id hI
  refine kw_aload_n (pc := 363) C dL_law_363 rfl 1 rfl ?_
  refine kw_aload_n (pc := 364) C dL_law_364 rfl 0 rfl ?_
  refine kw_iload_n (pc := 365) C dL_law_365 rfl 3 rfl ?_
  refine kw_iconst (pc := 366) C dL_law_366 (nI 1) (by decide) ?_
  refine kw_iadd (pc := 367) C dL_law_367 (z := nI (i + 1)) (nI_add _ _) ?_
  refine kw_sld (pc := 368) C hX hbl hbA dL_law_368 (i + 1) rfl (by omega) (by omega) ?_
  refine kw_aload_n (pc := 369) C dL_law_369 rfl 0 rfl ?_
  refine kw_iload_n (pc := 370) C dL_law_370 rfl 3 rfl ?_
  refine kw_iconst (pc := 371) C dL_law_371 (nI 2) (by decide) ?_
  refine kw_iadd (pc := 372) C dL_law_372 (z := nI (i + 2)) (nI_add _ _) ?_
  refine kw_sld (pc := 373) C hX hbl hbA dL_law_373 (i + 2) rfl (by omega) (by omega) ?_
  refine kw_calli (pc := 374) (wv := wC Z A) (wr := wM Z B τ) C hN hSW dL_law_374 (c_X6_sets l D Z A σ X F ck co K nn Bt Lt (xs (i + 1)) (xs (i + 2)) hC hI) (cwV 2 C.1.2.2.2.2 gL_law_X6_sets rfl rfl rfl (by decide +kernel) ⟨Nat.le_of_ble_eq_true rfl, Nat.le_of_ble_eq_true rfl⟩) [0, 1, 2, 3, 4, 5, 6, 7, 8, 9, 10, 11, 12, 13, 14, 15, 16, 17, 18, 19, 20, 21] [22, 23, 24, 25, 26, 27, 28, 29, 30, 31, 32] rfl rfl rfl (by decide) (by decide) (by decide) rfl rfl rfl rfl (Nat.le_of_ble_eq_true rfl) h1 h2 (fun r1 σ1 hr1 => ?_)
  refine kw_aload_n (pc := 377) C dL_law_377 rfl 2 rfl ?_
  refine kw_aload_n (pc := 378) C dL_law_378 rfl 0 rfl ?_
  refine kw_iload_n (pc := 379) C dL_law_379 rfl 3 rfl ?_
  refine kw_iconst (pc := 380) C dL_law_380 (nI 1) (by decide) ?_
  refine kw_iadd (pc := 381) C dL_law_381 (z := nI (i + 1)) (nI_add _ _) ?_
  refine kw_sld (pc := 382) C hX hbl hbA dL_law_382 (i + 1) rfl (by omega) (by omega) ?_
  refine kw_aload_n (pc := 383) C dL_law_383 rfl 0 rfl ?_
  refine kw_iload_n (pc := 384) C dL_law_384 rfl 3 rfl ?_
  refine kw_iconst (pc := 385) C dL_law_385 (nI 2) (by decide) ?_
  refine kw_iadd (pc := 386) C dL_law_386 (z := nI (i + 2)) (nI_add _ _) ?_
  refine kw_sld (pc := 387) C hX hbl hbA dL_law_387 (i + 2) rfl (by omega) (by omega) ?_
  refine kw_calli (pc := 388) (wv := wM Z B) (wr := wC Z A σ1) C hN hSW dL_law_388 (c_X7_sets l D Z B τ X F ck co K nn Bt Lt (xs (i + 1)) (xs (i + 2)) hM hO hnn) (cwV 2 C.1.2.2.2.2 gL_law_X7_sets rfl rfl rfl (by decide +kernel) ⟨Nat.le_of_ble_eq_true rfl, Nat.le_of_ble_eq_true rfl⟩) [0, 1, 2, 3, 4, 5, 6, 7, 8, 9, 10] [11, 12, 13, 14, 15, 16, 17, 18, 19, 20, 21, 22, 23, 24, 25, 26, 27, 28, 29, 30, 31, 32] rfl rfl rfl (by decide) (by decide) (by decide) rfl rfl rfl rfl (Nat.le_of_ble_eq_true rfl) h1 h2 (fun r2 τ1 hr2 => ?_)
  have hq := Lsm_ch (o := 8) (a := (xs (i + 1))) (b := (xs (i + 2))) (by decide) hI hr1 hr2
  exact kw_icmp_eq (pc := 391) (tgt := 881) C dL_law_391 (by decide) (fun _ => hnext _ _ hq.2) (fun h => absurd hq.1 h)
set_option maxHeartbeats 4000000 in
set_option maxRecDepth 100000 in
theorem law_8 {p : Program} {l : Launch} {e : Env} {s : State} {m : MethodId} {g : Array Value} {below : List Frame} {meth : Method} {c : Code} {D : va_G} {Z : CZ} {A0 : Nat → Prop} {Q : State → Prop} {mc ms : Nat} (C : KX p s m g c cL_law 4 wsL_law RL D Z A0) (hN : NWs s) (hSW : SW Z A0 s s.heap) {b L : Nat} {xs : Nat → Int32} (hX : va_X b L xs s s.heap) (hbl : b < s.heap.size) (hbA : ¬ A0 b) (hL : L ≤ 2048) (h1 : mc + 0 ≤ room_1.cells) (h2 : ms + 0 ≤ room_1.slots) {A B : Nat → Nat} {i : Nat} (hi : i + 4 ≤ L) {σ τ : St} (h : Lsm σ τ) (hnext : ∀ σ' τ', Lsm σ' τ' → KW p l e room_1 s m g below meth c D A0 4 Q (wC Z A σ' ++ wM Z B τ') mc ms 881 [(0, .ref b), (1, .ref (A 0)), (2, .ref (B 0)), (3, .int (nI i))] []) : KW p l e room_1 s m g below meth c D A0 4 Q (wC Z A σ ++ wM Z B τ) mc ms 396 [(0, .ref b), (1, .ref (A 0)), (2, .ref (B 0)), (3, .int (nI i))] [] := by
  obtain ⟨X, F, ck, co, K, nn, Bt, Lt, hC, hI, hM⟩ := h
  obtain ⟨hO, hKO, hnn, hLt, hBt⟩ := id hI
  refine kw_aload_n (pc := 396) C dL_law_396 rfl 1 rfl ?_
  refine kw_aload_n (pc := 397) C dL_law_397 rfl 0 rfl ?_
  refine kw_iload_n (pc := 398) C dL_law_398 rfl 3 rfl ?_
  refine kw_iconst (pc := 399) C dL_law_399 (nI 1) (by decide) ?_
  refine kw_iadd (pc := 400) C dL_law_400 (z := nI (i + 1)) (nI_add _ _) ?_
  refine kw_sld (pc := 401) C hX hbl hbA dL_law_401 (i + 1) rfl (by omega) (by omega) ?_
  refine kw_aload_n (pc := 402) C dL_law_402 rfl 0 rfl ?_
  refine kw_iload_n (pc := 403) C dL_law_403 rfl 3 rfl ?_
  refine kw_iconst (pc := 404) C dL_law_404 (nI 2) (by decide) ?_
  refine kw_iadd (pc := 405) C dL_law_405 (z := nI (i + 2)) (nI_add _ _) ?_
  refine kw_sld (pc := 406) C hX hbl hbA dL_law_406 (i + 2) rfl (by omega) (by omega) ?_
  refine kw_calli (pc := 407) (wv := wC Z A) (wr := wM Z B τ) C hN hSW dL_law_407 (c_X6_of l D Z A σ X F ck co K nn Bt Lt (xs (i + 1)) (xs (i + 2)) hC hI) (cwV 2 C.1.2.2.2.2 gL_law_X6_of rfl rfl rfl (by decide +kernel) ⟨Nat.le_of_ble_eq_true rfl, Nat.le_of_ble_eq_true rfl⟩) [0, 1, 2, 3, 4, 5, 6, 7, 8, 9, 10, 11, 12, 13, 14, 15, 16, 17, 18, 19, 20, 21] [22, 23, 24, 25, 26, 27, 28, 29, 30, 31, 32] rfl rfl rfl (by decide) (by decide) (by decide) rfl rfl rfl rfl (Nat.le_of_ble_eq_true rfl) h1 h2 (fun r1 σ1 hr1 => ?_)
  refine kw_aload_n (pc := 410) C dL_law_410 rfl 2 rfl ?_
  refine kw_aload_n (pc := 411) C dL_law_411 rfl 0 rfl ?_
  refine kw_iload_n (pc := 412) C dL_law_412 rfl 3 rfl ?_
  refine kw_iconst (pc := 413) C dL_law_413 (nI 1) (by decide) ?_
  refine kw_iadd (pc := 414) C dL_law_414 (z := nI (i + 1)) (nI_add _ _) ?_
  refine kw_sld (pc := 415) C hX hbl hbA dL_law_415 (i + 1) rfl (by omega) (by omega) ?_
  refine kw_aload_n (pc := 416) C dL_law_416 rfl 0 rfl ?_
  refine kw_iload_n (pc := 417) C dL_law_417 rfl 3 rfl ?_
  refine kw_iconst (pc := 418) C dL_law_418 (nI 2) (by decide) ?_
  refine kw_iadd (pc := 419) C dL_law_419 (z := nI (i + 2)) (nI_add _ _) ?_
  refine kw_sld (pc := 420) C hX hbl hbA dL_law_420 (i + 2) rfl (by omega) (by omega) ?_
  refine kw_calli (pc := 421) (wv := wM Z B) (wr := wC Z A σ1) C hN hSW dL_law_421 (c_X7_of l D Z B τ X F ck co K nn Bt Lt (xs (i + 1)) (xs (i + 2)) hM hO) (cwV 2 C.1.2.2.2.2 gL_law_X7_of rfl rfl rfl (by decide +kernel) ⟨Nat.le_of_ble_eq_true rfl, Nat.le_of_ble_eq_true rfl⟩) [0, 1, 2, 3, 4, 5, 6, 7, 8, 9, 10] [11, 12, 13, 14, 15, 16, 17, 18, 19, 20, 21, 22, 23, 24, 25, 26, 27, 28, 29, 30, 31, 32] rfl rfl rfl (by decide) (by decide) (by decide) rfl rfl rfl rfl (Nat.le_of_ble_eq_true rfl) h1 h2 (fun r2 τ1 hr2 => ?_)
  have hq := Lsm_q hI hr1 hr2
  exact kw_icmp_eq (pc := 424) (tgt := 881) C dL_law_424 (by decide) (fun _ => hnext _ _ hq.2) (fun h => absurd hq.1 h)
set_option maxHeartbeats 4000000 in
set_option maxRecDepth 100000 in
theorem law_9 {p : Program} {l : Launch} {e : Env} {s : State} {m : MethodId} {g : Array Value} {below : List Frame} {meth : Method} {c : Code} {D : va_G} {Z : CZ} {A0 : Nat → Prop} {Q : State → Prop} {mc ms : Nat} (C : KX p s m g c cL_law 4 wsL_law RL D Z A0) (hN : NWs s) (hSW : SW Z A0 s s.heap) {b L : Nat} {xs : Nat → Int32} (hX : va_X b L xs s s.heap) (hbl : b < s.heap.size) (hbA : ¬ A0 b) (hL : L ≤ 2048) (h1 : mc + 0 ≤ room_1.cells) (h2 : ms + 0 ≤ room_1.slots) {A B : Nat → Nat} {i : Nat} (hi : i + 4 ≤ L) {σ τ : St} (h : Lsm σ τ) (hnext : ∀ σ' τ', Lsm σ' τ' → KW p l e room_1 s m g below meth c D A0 4 Q (wC Z A σ' ++ wM Z B τ') mc ms 881 [(0, .ref b), (1, .ref (A 0)), (2, .ref (B 0)), (3, .int (nI i))] []) : KW p l e room_1 s m g below meth c D A0 4 Q (wC Z A σ ++ wM Z B τ) mc ms 429 [(0, .ref b), (1, .ref (A 0)), (2, .ref (B 0)), (3, .int (nI i))] [] := by
  obtain ⟨X, F, ck, co, K, nn, Bt, Lt, hC, hI, hM⟩ := h
  obtain ⟨hO, hKO, hnn, hLt, hBt⟩ := id hI
  refine kw_aload_n (pc := 429) C dL_law_429 rfl 1 rfl ?_
  refine kw_aload_n (pc := 430) C dL_law_430 rfl 0 rfl ?_
  refine kw_iload_n (pc := 431) C dL_law_431 rfl 3 rfl ?_
  refine kw_iconst (pc := 432) C dL_law_432 (nI 1) (by decide) ?_
  refine kw_iadd (pc := 433) C dL_law_433 (z := nI (i + 1)) (nI_add _ _) ?_
  refine kw_sld (pc := 434) C hX hbl hbA dL_law_434 (i + 1) rfl (by omega) (by omega) ?_
  refine kw_aload_n (pc := 435) C dL_law_435 rfl 0 rfl ?_
  refine kw_iload_n (pc := 436) C dL_law_436 rfl 3 rfl ?_
  refine kw_iconst (pc := 437) C dL_law_437 (nI 2) (by decide) ?_
  refine kw_iadd (pc := 438) C dL_law_438 (z := nI (i + 2)) (nI_add _ _) ?_
  refine kw_sld (pc := 439) C hX hbl hbA dL_law_439 (i + 2) rfl (by omega) (by omega) ?_
  refine kw_calli (pc := 440) (wv := wC Z A) (wr := wM Z B τ) C hN hSW dL_law_440 (c_X6_clutch l D Z A σ X F ck co K nn Bt Lt (xs (i + 1)) (xs (i + 2)) hC hI) (cwV 2 C.1.2.2.2.2 gL_law_X6_clutch rfl rfl rfl (by decide +kernel) ⟨Nat.le_of_ble_eq_true rfl, Nat.le_of_ble_eq_true rfl⟩) [0, 1, 2, 3, 4, 5, 6, 7, 8, 9, 10, 11, 12, 13, 14, 15, 16, 17, 18, 19, 20, 21] [22, 23, 24, 25, 26, 27, 28, 29, 30, 31, 32] rfl rfl rfl (by decide) (by decide) (by decide) rfl rfl rfl rfl (Nat.le_of_ble_eq_true rfl) h1 h2 (fun r1 σ1 hr1 => ?_)
  refine kw_aload_n (pc := 443) C dL_law_443 rfl 2 rfl ?_
  refine kw_aload_n (pc := 444) C dL_law_444 rfl 0 rfl ?_
  refine kw_iload_n (pc := 445) C dL_law_445 rfl 3 rfl ?_
  refine kw_iconst (pc := 446) C dL_law_446 (nI 1) (by decide) ?_
  refine kw_iadd (pc := 447) C dL_law_447 (z := nI (i + 1)) (nI_add _ _) ?_
  refine kw_sld (pc := 448) C hX hbl hbA dL_law_448 (i + 1) rfl (by omega) (by omega) ?_
  refine kw_aload_n (pc := 449) C dL_law_449 rfl 0 rfl ?_
  refine kw_iload_n (pc := 450) C dL_law_450 rfl 3 rfl ?_
  refine kw_iconst (pc := 451) C dL_law_451 (nI 2) (by decide) ?_
  refine kw_iadd (pc := 452) C dL_law_452 (z := nI (i + 2)) (nI_add _ _) ?_
  refine kw_sld (pc := 453) C hX hbl hbA dL_law_453 (i + 2) rfl (by omega) (by omega) ?_
  refine kw_calli (pc := 454) (wv := wM Z B) (wr := wC Z A σ1) C hN hSW dL_law_454 (c_X7_clutch l D Z B τ X F ck co K nn Bt Lt (xs (i + 1)) (xs (i + 2)) hM hO) (cwV 2 C.1.2.2.2.2 gL_law_X7_clutch rfl rfl rfl (by decide +kernel) ⟨Nat.le_of_ble_eq_true rfl, Nat.le_of_ble_eq_true rfl⟩) [0, 1, 2, 3, 4, 5, 6, 7, 8, 9, 10] [11, 12, 13, 14, 15, 16, 17, 18, 19, 20, 21, 22, 23, 24, 25, 26, 27, 28, 29, 30, 31, 32] rfl rfl rfl (by decide) (by decide) (by decide) rfl rfl rfl rfl (Nat.le_of_ble_eq_true rfl) h1 h2 (fun r2 τ1 hr2 => ?_)
  have hq := Lsm_q hI hr1 hr2
  exact kw_icmp_eq (pc := 457) (tgt := 881) C dL_law_457 (by decide) (fun _ => hnext _ _ hq.2) (fun h => absurd hq.1 h)
set_option maxHeartbeats 4000000 in
set_option maxRecDepth 100000 in
theorem law_10 {p : Program} {l : Launch} {e : Env} {s : State} {m : MethodId} {g : Array Value} {below : List Frame} {meth : Method} {c : Code} {D : va_G} {Z : CZ} {A0 : Nat → Prop} {Q : State → Prop} {mc ms : Nat} (C : KX p s m g c cL_law 4 wsL_law RL D Z A0) (hN : NWs s) (hSW : SW Z A0 s s.heap) {b L : Nat} {xs : Nat → Int32} (hX : va_X b L xs s s.heap) (hbl : b < s.heap.size) (hbA : ¬ A0 b) (hL : L ≤ 2048) (h1 : mc + 0 ≤ room_1.cells) (h2 : ms + 0 ≤ room_1.slots) {A B : Nat → Nat} {i : Nat} (hi : i + 4 ≤ L) {σ τ : St} (h : Lsm σ τ) (hnext : ∀ σ' τ', Lsm σ' τ' → KW p l e room_1 s m g below meth c D A0 4 Q (wC Z A σ' ++ wM Z B τ') mc ms 881 [(0, .ref b), (1, .ref (A 0)), (2, .ref (B 0)), (3, .int (nI i))] []) : KW p l e room_1 s m g below meth c D A0 4 Q (wC Z A σ ++ wM Z B τ) mc ms 462 [(0, .ref b), (1, .ref (A 0)), (2, .ref (B 0)), (3, .int (nI i))] [] := by
  obtain ⟨X, F, ck, co, K, nn, Bt, Lt, hC, hI, hM⟩ := h
  obtain ⟨hO, hKO, hnn, hLt, hBt⟩ := id hI
  refine kw_aload_n (pc := 462) C dL_law_462 rfl 1 rfl ?_
  refine kw_aload_n (pc := 463) C dL_law_463 rfl 0 rfl ?_
  refine kw_iload_n (pc := 464) C dL_law_464 rfl 3 rfl ?_
  refine kw_iconst (pc := 465) C dL_law_465 (nI 1) (by decide) ?_
  refine kw_iadd (pc := 466) C dL_law_466 (z := nI (i + 1)) (nI_add _ _) ?_
  refine kw_sld (pc := 467) C hX hbl hbA dL_law_467 (i + 1) rfl (by omega) (by omega) ?_
  refine kw_calli (pc := 468) (wv := wC Z A) (wr := wM Z B τ) C hN hSW dL_law_468 (c_X6_ties l D Z A σ X F ck co K nn Bt Lt (xs (i + 1)) hC hI) (cwV 1 C.1.2.2.2.2 gL_law_X6_ties rfl rfl rfl (by decide +kernel) ⟨Nat.le_of_ble_eq_true rfl, Nat.le_of_ble_eq_true rfl⟩) [0, 1, 2, 3, 4, 5, 6, 7, 8, 9, 10, 11, 12, 13, 14, 15, 16, 17, 18, 19, 20, 21] [22, 23, 24, 25, 26, 27, 28, 29, 30, 31, 32] rfl rfl rfl (by decide) (by decide) (by decide) rfl rfl rfl rfl (Nat.le_of_ble_eq_true rfl) h1 h2 (fun r1 σ1 hr1 => ?_)
  refine kw_aload_n (pc := 471) C dL_law_471 rfl 2 rfl ?_
  refine kw_aload_n (pc := 472) C dL_law_472 rfl 0 rfl ?_
  refine kw_iload_n (pc := 473) C dL_law_473 rfl 3 rfl ?_
  refine kw_iconst (pc := 474) C dL_law_474 (nI 1) (by decide) ?_
  refine kw_iadd (pc := 475) C dL_law_475 (z := nI (i + 1)) (nI_add _ _) ?_
  refine kw_sld (pc := 476) C hX hbl hbA dL_law_476 (i + 1) rfl (by omega) (by omega) ?_
  refine kw_calli (pc := 477) (wv := wM Z B) (wr := wC Z A σ1) C hN hSW dL_law_477 (c_X7_ties l D Z B τ X F ck co K nn Bt Lt (xs (i + 1)) hM hO) (cwV 1 C.1.2.2.2.2 gL_law_X7_ties rfl rfl rfl (by decide +kernel) ⟨Nat.le_of_ble_eq_true rfl, Nat.le_of_ble_eq_true rfl⟩) [0, 1, 2, 3, 4, 5, 6, 7, 8, 9, 10] [11, 12, 13, 14, 15, 16, 17, 18, 19, 20, 21, 22, 23, 24, 25, 26, 27, 28, 29, 30, 31, 32] rfl rfl rfl (by decide) (by decide) (by decide) rfl rfl rfl rfl (Nat.le_of_ble_eq_true rfl) h1 h2 (fun r2 τ1 hr2 => ?_)
  have hq := Lsm_q hI hr1 hr2
  exact kw_icmp_eq (pc := 480) (tgt := 881) C dL_law_480 (by decide) (fun _ => hnext _ _ hq.2) (fun h => absurd hq.1 h)
set_option maxHeartbeats 4000000 in
set_option maxRecDepth 100000 in
theorem law_11 {p : Program} {l : Launch} {e : Env} {s : State} {m : MethodId} {g : Array Value} {below : List Frame} {meth : Method} {c : Code} {D : va_G} {Z : CZ} {A0 : Nat → Prop} {Q : State → Prop} {mc ms : Nat} (C : KX p s m g c cL_law 4 wsL_law RL D Z A0) (hN : NWs s) (hSW : SW Z A0 s s.heap) {b L : Nat} {xs : Nat → Int32} (hX : va_X b L xs s s.heap) (hbl : b < s.heap.size) (hbA : ¬ A0 b) (hL : L ≤ 2048) (h1 : mc + 0 ≤ room_1.cells) (h2 : ms + 0 ≤ room_1.slots) {A B : Nat → Nat} {i : Nat} (hi : i + 4 ≤ L) {σ τ : St} (h : Lsm σ τ) (hnext : ∀ σ' τ', Lsm σ' τ' → KW p l e room_1 s m g below meth c D A0 4 Q (wC Z A σ' ++ wM Z B τ') mc ms 881 [(0, .ref b), (1, .ref (A 0)), (2, .ref (B 0)), (3, .int (nI i))] []) : KW p l e room_1 s m g below meth c D A0 4 Q (wC Z A σ ++ wM Z B τ) mc ms 485 [(0, .ref b), (1, .ref (A 0)), (2, .ref (B 0)), (3, .int (nI i))] [] := by
  obtain ⟨X, F, ck, co, K, nn, Bt, Lt, hC, hI, hM⟩ := h
  obtain ⟨hO, hKO, hnn, hLt, hBt⟩ := id hI
  refine kw_aload_n (pc := 485) C dL_law_485 rfl 1 rfl ?_
  refine kw_aload_n (pc := 486) C dL_law_486 rfl 0 rfl ?_
  refine kw_iload_n (pc := 487) C dL_law_487 rfl 3 rfl ?_
  refine kw_iconst (pc := 488) C dL_law_488 (nI 1) (by decide) ?_
  refine kw_iadd (pc := 489) C dL_law_489 (z := nI (i + 1)) (nI_add _ _) ?_
  refine kw_sld (pc := 490) C hX hbl hbA dL_law_490 (i + 1) rfl (by omega) (by omega) ?_
  refine kw_aload_n (pc := 491) C dL_law_491 rfl 0 rfl ?_
  refine kw_iload_n (pc := 492) C dL_law_492 rfl 3 rfl ?_
  refine kw_iconst (pc := 493) C dL_law_493 (nI 2) (by decide) ?_
  refine kw_iadd (pc := 494) C dL_law_494 (z := nI (i + 2)) (nI_add _ _) ?_
  refine kw_sld (pc := 495) C hX hbl hbA dL_law_495 (i + 2) rfl (by omega) (by omega) ?_
  refine kw_aload_n (pc := 496) C dL_law_496 rfl 0 rfl ?_
  refine kw_iload_n (pc := 497) C dL_law_497 rfl 3 rfl ?_
  refine kw_iconst (pc := 498) C dL_law_498 (nI 3) (by decide) ?_
  refine kw_iadd (pc := 499) C dL_law_499 (z := nI (i + 3)) (nI_add _ _) ?_
  refine kw_sld (pc := 500) C hX hbl hbA dL_law_500 (i + 3) rfl (by omega) (by omega) ?_
  refine kw_calli (pc := 501) (wv := wC Z A) (wr := wM Z B τ) C hN hSW dL_law_501 (c_X6_simple l D Z A σ X F ck co K nn Bt Lt (xs (i + 1)) (xs (i + 2)) (xs (i + 3)) hC hI) (cwV 3 C.1.2.2.2.2 gL_law_X6_simple rfl rfl rfl (by decide +kernel) ⟨Nat.le_of_ble_eq_true rfl, Nat.le_of_ble_eq_true rfl⟩) [0, 1, 2, 3, 4, 5, 6, 7, 8, 9, 10, 11, 12, 13, 14, 15, 16, 17, 18, 19, 20, 21] [22, 23, 24, 25, 26, 27, 28, 29, 30, 31, 32] rfl rfl rfl (by decide) (by decide) (by decide) rfl rfl rfl rfl (Nat.le_of_ble_eq_true rfl) h1 h2 (fun r1 σ1 hr1 => ?_)
  refine kw_aload_n (pc := 504) C dL_law_504 rfl 2 rfl ?_
  refine kw_aload_n (pc := 505) C dL_law_505 rfl 0 rfl ?_
  refine kw_iload_n (pc := 506) C dL_law_506 rfl 3 rfl ?_
  refine kw_iconst (pc := 507) C dL_law_507 (nI 1) (by decide) ?_
  refine kw_iadd (pc := 508) C dL_law_508 (z := nI (i + 1)) (nI_add _ _) ?_
  refine kw_sld (pc := 509) C hX hbl hbA dL_law_509 (i + 1) rfl (by omega) (by omega) ?_
  refine kw_aload_n (pc := 510) C dL_law_510 rfl 0 rfl ?_
  refine kw_iload_n (pc := 511) C dL_law_511 rfl 3 rfl ?_
  refine kw_iconst (pc := 512) C dL_law_512 (nI 2) (by decide) ?_
  refine kw_iadd (pc := 513) C dL_law_513 (z := nI (i + 2)) (nI_add _ _) ?_
  refine kw_sld (pc := 514) C hX hbl hbA dL_law_514 (i + 2) rfl (by omega) (by omega) ?_
  refine kw_aload_n (pc := 515) C dL_law_515 rfl 0 rfl ?_
  refine kw_iload_n (pc := 516) C dL_law_516 rfl 3 rfl ?_
  refine kw_iconst (pc := 517) C dL_law_517 (nI 3) (by decide) ?_
  refine kw_iadd (pc := 518) C dL_law_518 (z := nI (i + 3)) (nI_add _ _) ?_
  refine kw_sld (pc := 519) C hX hbl hbA dL_law_519 (i + 3) rfl (by omega) (by omega) ?_
  refine kw_calli (pc := 520) (wv := wM Z B) (wr := wC Z A σ1) C hN hSW dL_law_520 (c_X7_simple l D Z B τ X F ck co K nn Bt Lt (xs (i + 1)) (xs (i + 2)) (xs (i + 3)) hM hO) (cwV 3 C.1.2.2.2.2 gL_law_X7_simple rfl rfl rfl (by decide +kernel) ⟨Nat.le_of_ble_eq_true rfl, Nat.le_of_ble_eq_true rfl⟩) [0, 1, 2, 3, 4, 5, 6, 7, 8, 9, 10] [11, 12, 13, 14, 15, 16, 17, 18, 19, 20, 21, 22, 23, 24, 25, 26, 27, 28, 29, 30, 31, 32] rfl rfl rfl (by decide) (by decide) (by decide) rfl rfl rfl rfl (Nat.le_of_ble_eq_true rfl) h1 h2 (fun r2 τ1 hr2 => ?_)
  have hq := Lsm_q hI hr1 hr2
  exact kw_icmp_eq (pc := 523) (tgt := 881) C dL_law_523 (by decide) (fun _ => hnext _ _ hq.2) (fun h => absurd hq.1 h)
set_option maxHeartbeats 4000000 in
set_option maxRecDepth 100000 in
theorem law_12 {p : Program} {l : Launch} {e : Env} {s : State} {m : MethodId} {g : Array Value} {below : List Frame} {meth : Method} {c : Code} {D : va_G} {Z : CZ} {A0 : Nat → Prop} {Q : State → Prop} {mc ms : Nat} (C : KX p s m g c cL_law 4 wsL_law RL D Z A0) (hN : NWs s) (hSW : SW Z A0 s s.heap) {b L : Nat} {xs : Nat → Int32} (hX : va_X b L xs s s.heap) (hbl : b < s.heap.size) (hbA : ¬ A0 b) (hL : L ≤ 2048) (h1 : mc + 0 ≤ room_1.cells) (h2 : ms + 0 ≤ room_1.slots) {A B : Nat → Nat} {i : Nat} (hi : i + 4 ≤ L) {σ τ : St} (h : Lsm σ τ) (hnext : ∀ σ' τ', Lsm σ' τ' → KW p l e room_1 s m g below meth c D A0 4 Q (wC Z A σ' ++ wM Z B τ') mc ms 881 [(0, .ref b), (1, .ref (A 0)), (2, .ref (B 0)), (3, .int (nI i))] []) : KW p l e room_1 s m g below meth c D A0 4 Q (wC Z A σ ++ wM Z B τ) mc ms 528 [(0, .ref b), (1, .ref (A 0)), (2, .ref (B 0)), (3, .int (nI i))] [] := by
  obtain ⟨X, F, ck, co, K, nn, Bt, Lt, hC, hI, hM⟩ := h
  obtain ⟨hO, hKO, hnn, hLt, hBt⟩ := id hI
  refine kw_aload_n (pc := 528) C dL_law_528 rfl 1 rfl ?_
  refine kw_aload_n (pc := 529) C dL_law_529 rfl 0 rfl ?_
  refine kw_iload_n (pc := 530) C dL_law_530 rfl 3 rfl ?_
  refine kw_iconst (pc := 531) C dL_law_531 (nI 1) (by decide) ?_
  refine kw_iadd (pc := 532) C dL_law_532 (z := nI (i + 1)) (nI_add _ _) ?_
  refine kw_sld (pc := 533) C hX hbl hbA dL_law_533 (i + 1) rfl (by omega) (by omega) ?_
  refine kw_aload_n (pc := 534) C dL_law_534 rfl 0 rfl ?_
  refine kw_iload_n (pc := 535) C dL_law_535 rfl 3 rfl ?_
  refine kw_iconst (pc := 536) C dL_law_536 (nI 2) (by decide) ?_
  refine kw_iadd (pc := 537) C dL_law_537 (z := nI (i + 2)) (nI_add _ _) ?_
  refine kw_sld (pc := 538) C hX hbl hbA dL_law_538 (i + 2) rfl (by omega) (by omega) ?_
  refine kw_aload_n (pc := 539) C dL_law_539 rfl 0 rfl ?_
  refine kw_iload_n (pc := 540) C dL_law_540 rfl 3 rfl ?_
  refine kw_iconst (pc := 541) C dL_law_541 (nI 3) (by decide) ?_
  refine kw_iadd (pc := 542) C dL_law_542 (z := nI (i + 3)) (nI_add _ _) ?_
  refine kw_sld (pc := 543) C hX hbl hbA dL_law_543 (i + 3) rfl (by omega) (by omega) ?_
  refine kw_calli (pc := 544) (wv := wC Z A) (wr := wM Z B τ) C hN hSW dL_law_544 (c_X6_way l D Z A σ X F ck co K nn Bt Lt (xs (i + 1)) (xs (i + 2)) (xs (i + 3)) hC hI) (cwV 3 C.1.2.2.2.2 gL_law_X6_way rfl rfl rfl (by decide +kernel) ⟨Nat.le_of_ble_eq_true rfl, Nat.le_of_ble_eq_true rfl⟩) [0, 1, 2, 3, 4, 5, 6, 7, 8, 9, 10, 11, 12, 13, 14, 15, 16, 17, 18, 19, 20, 21] [22, 23, 24, 25, 26, 27, 28, 29, 30, 31, 32] rfl rfl rfl (by decide) (by decide) (by decide) rfl rfl rfl rfl (Nat.le_of_ble_eq_true rfl) h1 h2 (fun r1 σ1 hr1 => ?_)
  refine kw_aload_n (pc := 547) C dL_law_547 rfl 2 rfl ?_
  refine kw_aload_n (pc := 548) C dL_law_548 rfl 0 rfl ?_
  refine kw_iload_n (pc := 549) C dL_law_549 rfl 3 rfl ?_
  refine kw_iconst (pc := 550) C dL_law_550 (nI 1) (by decide) ?_
  refine kw_iadd (pc := 551) C dL_law_551 (z := nI (i + 1)) (nI_add _ _) ?_
  refine kw_sld (pc := 552) C hX hbl hbA dL_law_552 (i + 1) rfl (by omega) (by omega) ?_
  refine kw_aload_n (pc := 553) C dL_law_553 rfl 0 rfl ?_
  refine kw_iload_n (pc := 554) C dL_law_554 rfl 3 rfl ?_
  refine kw_iconst (pc := 555) C dL_law_555 (nI 2) (by decide) ?_
  refine kw_iadd (pc := 556) C dL_law_556 (z := nI (i + 2)) (nI_add _ _) ?_
  refine kw_sld (pc := 557) C hX hbl hbA dL_law_557 (i + 2) rfl (by omega) (by omega) ?_
  refine kw_aload_n (pc := 558) C dL_law_558 rfl 0 rfl ?_
  refine kw_iload_n (pc := 559) C dL_law_559 rfl 3 rfl ?_
  refine kw_iconst (pc := 560) C dL_law_560 (nI 3) (by decide) ?_
  refine kw_iadd (pc := 561) C dL_law_561 (z := nI (i + 3)) (nI_add _ _) ?_
  refine kw_sld (pc := 562) C hX hbl hbA dL_law_562 (i + 3) rfl (by omega) (by omega) ?_
  refine kw_calli (pc := 563) (wv := wM Z B) (wr := wC Z A σ1) C hN hSW dL_law_563 (c_X7_way l D Z B τ X F ck co K nn Bt Lt (xs (i + 1)) (xs (i + 2)) (xs (i + 3)) hM hO) (cwV 3 C.1.2.2.2.2 gL_law_X7_way rfl rfl rfl (by decide +kernel) ⟨Nat.le_of_ble_eq_true rfl, Nat.le_of_ble_eq_true rfl⟩) [0, 1, 2, 3, 4, 5, 6, 7, 8, 9, 10] [11, 12, 13, 14, 15, 16, 17, 18, 19, 20, 21, 22, 23, 24, 25, 26, 27, 28, 29, 30, 31, 32] rfl rfl rfl (by decide) (by decide) (by decide) rfl rfl rfl rfl (Nat.le_of_ble_eq_true rfl) h1 h2 (fun r2 τ1 hr2 => ?_)
  have hq := Lsm_q hI hr1 hr2
  exact kw_icmp_eq (pc := 566) (tgt := 881) C dL_law_566 (by decide) (fun _ => hnext _ _ hq.2) (fun h => absurd hq.1 h)
