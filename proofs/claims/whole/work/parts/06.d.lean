set_option maxRecDepth 100000 in
set_option maxHeartbeats 800000 in
theorem lc_rain {z : Fz} {g : Gl} {b L : Nat} {xs : Nat → Int32} (ok : Ok z g code 4 RL wsL_law 9 320) (hX : SX z g b L xs) (hL : L ≤ 3072) {i : Int} (h0 : 0 ≤ i) (h6 : i + 6 ≤ L) {M : Mem} (hI : InvF M) (K : ∀ M2 : Mem, InvP M2 → V z g 4 M2 [(3, iv i), (2, rf g 78), (1, rf g 0), (0, .ref b)] [] 1219) : V z g 4 M [(3, iv i), (2, rf g 78), (1, rf g 0), (0, .ref b)] [] 184 := by
  refine v_aload_n ok 2 dL_law_184 rfl rfl ?_
  refine v_aload_n ok 3 dL_law_185 rfl rfl ?_
  refine v_iload_n ok 0 dL_law_186 rfl rfl ?_
  refine v_iconst (n := 1) ok dL_law_187 ?_
  refine v_iadd ok dL_law_188 ?_
  refine v_sld ok hX (by omega) (by omega) hL dL_law_189 ?_
  refine v_aload_n ok 3 dL_law_190 rfl rfl ?_
  refine v_iload_n ok 0 dL_law_191 rfl rfl ?_
  refine v_iconst (n := 2) ok dL_law_192 ?_
  refine v_iadd ok dL_law_193 ?_
  refine v_sld ok hX (by omega) (by omega) hL dL_law_194 ?_
  refine v_callV (na := 2) (i := 0) (C := RX9) (T := TX9) (N := 9) (f0 := (M 0)) ok (ct_X9_rain z.2.1 g M (sx xs (i + 1)) (sx xs (i + 2)) (i32_of _) (i32_of _)) gL_law_X9_rain (kd_lt (show kd 0 = 9 from rfl) (by decide)) rfl rfl (cellF_9 _ rfl) rfl (by decide +kernel) rfl (by decide) [] rfl (Nat.le_of_ble_eq_true rfl) dL_law_195 (fun v1 M1 hp1 => ?_)
  obtain ⟨⟨y, rfl⟩, hk⟩ := kp_rain (inv_m hI) hp1
  have e78 : M1 78 = M 78 := hk 78 (by decide)
  have e79 : M1 79 = M 79 := hk 79 (by decide)
  have e82 : M1 82 = M 82 := hk 82 (by decide)
  have e92 : M1 92 = M 92 := hk 92 (by decide)
  have e93 : M1 93 = M 93 := hk 93 (by decide)
  have e94 : M1 94 = M 94 := hk 94 (by decide)
  show V z g 4 M1 [(3, iv i), (2, rf g 78), (1, rf g 0), (0, .ref b)] [iv y] 198
  refine v_aload_n ok 1 dL_law_198 rfl rfl ?_
  refine v_aload_n ok 3 dL_law_199 rfl rfl ?_
  refine v_iload_n ok 0 dL_law_200 rfl rfl ?_
  refine v_iconst (n := 1) ok dL_law_201 ?_
  refine v_iadd ok dL_law_202 ?_
  refine v_sld ok hX (by omega) (by omega) hL dL_law_203 ?_
  refine v_aload_n ok 3 dL_law_204 rfl rfl ?_
  refine v_iload_n ok 0 dL_law_205 rfl rfl ?_
  refine v_iconst (n := 2) ok dL_law_206 ?_
  refine v_iadd ok dL_law_207 ?_
  refine v_sld ok hX (by omega) (by omega) hL dL_law_208 ?_
  refine v_callV (na := 2) (i := 78) (C := RX10) (T := TX10) (N := 22) (f0 := (M1 78)) ok (ct_X10_rain z.2.1 g M1 (sx xs (i + 1)) (sx xs (i + 2)) (i32_of _) (i32_of _)) gL_law_X10_rain (kd_lt (show kd 78 = 10 from rfl) (by decide)) rfl rfl (cellF_10 _ rfl) rfl (by decide +kernel) rfl (by decide) [iv y] rfl (Nat.le_of_ble_eq_true rfl) dL_law_209 (fun v2 M2 hp2 => ?_)
  obtain ⟨x, q1, q2, hP⟩ := pr_rain hI hp1 hp2
  have q3 : (iv y : Value) = iv x := Option.some.inj q1
  rw [q2]
  show V z g 4 M2 [(3, iv i), (2, rf g 78), (1, rf g 0), (0, .ref b)] [iv x, iv y] 212
  rw [q3]
  exact v_same ok dL_law_212 (by decide) (K M2 hP)
set_option maxRecDepth 100000 in
set_option maxHeartbeats 800000 in
theorem lc_basin {z : Fz} {g : Gl} {b L : Nat} {xs : Nat → Int32} (ok : Ok z g code 4 RL wsL_law 9 320) (hX : SX z g b L xs) (hL : L ≤ 3072) {i : Int} (h0 : 0 ≤ i) (h6 : i + 6 ≤ L) {M : Mem} (hI : InvF M) (K : ∀ M2 : Mem, InvP M2 → V z g 4 M2 [(3, iv i), (2, rf g 78), (1, rf g 0), (0, .ref b)] [] 1219) : V z g 4 M [(3, iv i), (2, rf g 78), (1, rf g 0), (0, .ref b)] [] 217 := by
  refine v_aload_n ok 2 dL_law_217 rfl rfl ?_
  refine v_aload_n ok 3 dL_law_218 rfl rfl ?_
  refine v_iload_n ok 0 dL_law_219 rfl rfl ?_
  refine v_iconst (n := 1) ok dL_law_220 ?_
  refine v_iadd ok dL_law_221 ?_
  refine v_sld ok hX (by omega) (by omega) hL dL_law_222 ?_
  refine v_callV (na := 1) (i := 0) (C := RX9) (T := TX9) (N := 9) (f0 := (M 0)) ok (ct_X9_basin z.2.1 g M (sx xs (i + 1)) (i32_of _) (hI.1.1.site hI.1.2)) gL_law_X9_basin (kd_lt (show kd 0 = 9 from rfl) (by decide)) rfl rfl (cellF_9 _ rfl) rfl (by decide +kernel) rfl (by decide) [] rfl (Nat.le_of_ble_eq_true rfl) dL_law_223 (fun v1 M1 hp1 => ?_)
  obtain ⟨⟨y, rfl⟩, hk⟩ := kp_basin (inv_m hI) hp1
  have e78 : M1 78 = M 78 := hk 78 (by decide)
  have e79 : M1 79 = M 79 := hk 79 (by decide)
  have e82 : M1 82 = M 82 := hk 82 (by decide)
  have e92 : M1 92 = M 92 := hk 92 (by decide)
  have e93 : M1 93 = M 93 := hk 93 (by decide)
  have e94 : M1 94 = M 94 := hk 94 (by decide)
  show V z g 4 M1 [(3, iv i), (2, rf g 78), (1, rf g 0), (0, .ref b)] [iv y] 226
  refine v_aload_n ok 1 dL_law_226 rfl rfl ?_
  refine v_aload_n ok 3 dL_law_227 rfl rfl ?_
  refine v_iload_n ok 0 dL_law_228 rfl rfl ?_
  refine v_iconst (n := 1) ok dL_law_229 ?_
  refine v_iadd ok dL_law_230 ?_
  refine v_sld ok hX (by omega) (by omega) hL dL_law_231 ?_
  refine v_callV (na := 1) (i := 78) (C := RX10) (T := TX10) (N := 22) (f0 := (M1 78)) ok (ct_X10_basin z.2.1 g M1 (sx xs (i + 1)) (i32_of _) (by rw [e79]; exact hI.1.2.2.2.1)) gL_law_X10_basin (kd_lt (show kd 78 = 10 from rfl) (by decide)) rfl rfl (cellF_10 _ rfl) rfl (by decide +kernel) rfl (by decide) [iv y] rfl (Nat.le_of_ble_eq_true rfl) dL_law_232 (fun v2 M2 hp2 => ?_)
  obtain ⟨x, q1, q2, hP⟩ := pr_basin hI hp1 hp2
  have q3 : (iv y : Value) = iv x := Option.some.inj q1
  rw [q2]
  show V z g 4 M2 [(3, iv i), (2, rf g 78), (1, rf g 0), (0, .ref b)] [iv x, iv y] 235
  rw [q3]
  exact v_same ok dL_law_235 (by decide) (K M2 hP)
set_option maxRecDepth 100000 in
set_option maxHeartbeats 800000 in
theorem lc_hold {z : Fz} {g : Gl} {b L : Nat} {xs : Nat → Int32} (ok : Ok z g code 4 RL wsL_law 9 320) (hX : SX z g b L xs) (hL : L ≤ 3072) {i : Int} (h0 : 0 ≤ i) (h6 : i + 6 ≤ L) {M : Mem} (hI : InvF M) (K : ∀ M2 : Mem, InvP M2 → V z g 4 M2 [(3, iv i), (2, rf g 78), (1, rf g 0), (0, .ref b)] [] 1219) : V z g 4 M [(3, iv i), (2, rf g 78), (1, rf g 0), (0, .ref b)] [] 240 := by
  refine v_aload_n ok 2 dL_law_240 rfl rfl ?_
  refine v_aload_n ok 3 dL_law_241 rfl rfl ?_
  refine v_iload_n ok 0 dL_law_242 rfl rfl ?_
  refine v_iconst (n := 1) ok dL_law_243 ?_
  refine v_iadd ok dL_law_244 ?_
  refine v_sld ok hX (by omega) (by omega) hL dL_law_245 ?_
  refine v_aload_n ok 3 dL_law_246 rfl rfl ?_
  refine v_iload_n ok 0 dL_law_247 rfl rfl ?_
  refine v_iconst (n := 2) ok dL_law_248 ?_
  refine v_iadd ok dL_law_249 ?_
  refine v_sld ok hX (by omega) (by omega) hL dL_law_250 ?_
  refine v_aload_n ok 3 dL_law_251 rfl rfl ?_
  refine v_iload_n ok 0 dL_law_252 rfl rfl ?_
  refine v_iconst (n := 3) ok dL_law_253 ?_
  refine v_iadd ok dL_law_254 ?_
  refine v_sld ok hX (by omega) (by omega) hL dL_law_255 ?_
  refine v_callV (na := 3) (i := 0) (C := RX9) (T := TX9) (N := 9) (f0 := (M 0)) ok (ct_X9_hold z.2.1 g M (sx xs (i + 1)) (sx xs (i + 2)) (sx xs (i + 3)) (i32_of _) (i32_of _) (i32_of _) (hI.1.1.site hI.1.2)) gL_law_X9_hold (kd_lt (show kd 0 = 9 from rfl) (by decide)) rfl rfl (cellF_9 _ rfl) rfl (by decide +kernel) rfl (by decide) [] rfl (Nat.le_of_ble_eq_true rfl) dL_law_256 (fun v1 M1 hp1 => ?_)
  obtain ⟨⟨y, rfl⟩, hk⟩ := kp_hold (inv_m hI) hp1
  have e78 : M1 78 = M 78 := hk 78 (by decide)
  have e79 : M1 79 = M 79 := hk 79 (by decide)
  have e82 : M1 82 = M 82 := hk 82 (by decide)
  have e92 : M1 92 = M 92 := hk 92 (by decide)
  have e93 : M1 93 = M 93 := hk 93 (by decide)
  have e94 : M1 94 = M 94 := hk 94 (by decide)
  show V z g 4 M1 [(3, iv i), (2, rf g 78), (1, rf g 0), (0, .ref b)] [iv y] 259
  refine v_aload_n ok 1 dL_law_259 rfl rfl ?_
  refine v_aload_n ok 3 dL_law_260 rfl rfl ?_
  refine v_iload_n ok 0 dL_law_261 rfl rfl ?_
  refine v_iconst (n := 1) ok dL_law_262 ?_
  refine v_iadd ok dL_law_263 ?_
  refine v_sld ok hX (by omega) (by omega) hL dL_law_264 ?_
  refine v_aload_n ok 3 dL_law_265 rfl rfl ?_
  refine v_iload_n ok 0 dL_law_266 rfl rfl ?_
  refine v_iconst (n := 2) ok dL_law_267 ?_
  refine v_iadd ok dL_law_268 ?_
  refine v_sld ok hX (by omega) (by omega) hL dL_law_269 ?_
  refine v_aload_n ok 3 dL_law_270 rfl rfl ?_
  refine v_iload_n ok 0 dL_law_271 rfl rfl ?_
  refine v_iconst (n := 3) ok dL_law_272 ?_
  refine v_iadd ok dL_law_273 ?_
  refine v_sld ok hX (by omega) (by omega) hL dL_law_274 ?_
  refine v_callV (na := 3) (i := 78) (C := RX10) (T := TX10) (N := 22) (f0 := (M1 78)) ok (ct_X10_hold z.2.1 g M1 (sx xs (i + 1)) (sx xs (i + 2)) (sx xs (i + 3)) (i32_of _) (i32_of _) (i32_of _) (by rw [e79]; exact hI.1.2)) gL_law_X10_hold (kd_lt (show kd 78 = 10 from rfl) (by decide)) rfl rfl (cellF_10 _ rfl) rfl (by decide +kernel) rfl (by decide) [iv y] rfl (Nat.le_of_ble_eq_true rfl) dL_law_275 (fun v2 M2 hp2 => ?_)
  obtain ⟨x, q1, q2, hP⟩ := pr_hold hI hp1 hp2
  have q3 : (iv y : Value) = iv x := Option.some.inj q1
  rw [q2]
  show V z g 4 M2 [(3, iv i), (2, rf g 78), (1, rf g 0), (0, .ref b)] [iv x, iv y] 278
  rw [q3]
  exact v_same ok dL_law_278 (by decide) (K M2 hP)
set_option maxRecDepth 100000 in
set_option maxHeartbeats 800000 in
theorem lc_tell {z : Fz} {g : Gl} {b L : Nat} {xs : Nat → Int32} (ok : Ok z g code 4 RL wsL_law 9 320) (hX : SX z g b L xs) (hL : L ≤ 3072) {i : Int} (h0 : 0 ≤ i) (h6 : i + 6 ≤ L) {M : Mem} (hI : InvF M) (K : ∀ M2 : Mem, InvP M2 → V z g 4 M2 [(3, iv i), (2, rf g 78), (1, rf g 0), (0, .ref b)] [] 1219) : V z g 4 M [(3, iv i), (2, rf g 78), (1, rf g 0), (0, .ref b)] [] 283 := by
  refine v_aload_n ok 2 dL_law_283 rfl rfl ?_
  refine v_aload_n ok 3 dL_law_284 rfl rfl ?_
  refine v_iload_n ok 0 dL_law_285 rfl rfl ?_
  refine v_iconst (n := 1) ok dL_law_286 ?_
  refine v_iadd ok dL_law_287 ?_
  refine v_sld ok hX (by omega) (by omega) hL dL_law_288 ?_
  refine v_aload_n ok 3 dL_law_289 rfl rfl ?_
  refine v_iload_n ok 0 dL_law_290 rfl rfl ?_
  refine v_iconst (n := 2) ok dL_law_291 ?_
  refine v_iadd ok dL_law_292 ?_
  refine v_sld ok hX (by omega) (by omega) hL dL_law_293 ?_
  refine v_callV (na := 2) (i := 0) (C := RX9) (T := TX9) (N := 9) (f0 := (M 0)) ok (ct_X9_tell z.2.1 g M (sx xs (i + 1)) (sx xs (i + 2)) (i32_of _) (i32_of _)) gL_law_X9_tell (kd_lt (show kd 0 = 9 from rfl) (by decide)) rfl rfl (cellF_9 _ rfl) rfl (by decide +kernel) rfl (by decide) [] rfl (Nat.le_of_ble_eq_true rfl) dL_law_294 (fun v1 M1 hp1 => ?_)
  obtain ⟨⟨y, rfl⟩, hk⟩ := kp_tell (inv_m hI) hp1
  have e78 : M1 78 = M 78 := hk 78 (by decide)
  have e79 : M1 79 = M 79 := hk 79 (by decide)
  have e82 : M1 82 = M 82 := hk 82 (by decide)
  have e92 : M1 92 = M 92 := hk 92 (by decide)
  have e93 : M1 93 = M 93 := hk 93 (by decide)
  have e94 : M1 94 = M 94 := hk 94 (by decide)
  show V z g 4 M1 [(3, iv i), (2, rf g 78), (1, rf g 0), (0, .ref b)] [iv y] 297
  refine v_aload_n ok 1 dL_law_297 rfl rfl ?_
  refine v_aload_n ok 3 dL_law_298 rfl rfl ?_
  refine v_iload_n ok 0 dL_law_299 rfl rfl ?_
  refine v_iconst (n := 1) ok dL_law_300 ?_
  refine v_iadd ok dL_law_301 ?_
  refine v_sld ok hX (by omega) (by omega) hL dL_law_302 ?_
  refine v_aload_n ok 3 dL_law_303 rfl rfl ?_
  refine v_iload_n ok 0 dL_law_304 rfl rfl ?_
  refine v_iconst (n := 2) ok dL_law_305 ?_
  refine v_iadd ok dL_law_306 ?_
  refine v_sld ok hX (by omega) (by omega) hL dL_law_307 ?_
  refine v_callV (na := 2) (i := 78) (C := RX10) (T := TX10) (N := 22) (f0 := (M1 78)) ok (ct_X10_tell z.2.1 g M1 (sx xs (i + 1)) (sx xs (i + 2)) (i32_of _) (i32_of _)) gL_law_X10_tell (kd_lt (show kd 78 = 10 from rfl) (by decide)) rfl rfl (cellF_10 _ rfl) rfl (by decide +kernel) rfl (by decide) [iv y] rfl (Nat.le_of_ble_eq_true rfl) dL_law_308 (fun v2 M2 hp2 => ?_)
  obtain ⟨x, q1, q2, hP⟩ := pr_tell hI hp1 hp2
  have q3 : (iv y : Value) = iv x := Option.some.inj q1
  rw [q2]
  show V z g 4 M2 [(3, iv i), (2, rf g 78), (1, rf g 0), (0, .ref b)] [iv x, iv y] 311
  rw [q3]
  exact v_same ok dL_law_311 (by decide) (K M2 hP)
set_option maxRecDepth 100000 in
set_option maxHeartbeats 800000 in
theorem lc_take {z : Fz} {g : Gl} {b L : Nat} {xs : Nat → Int32} (ok : Ok z g code 4 RL wsL_law 9 320) (hX : SX z g b L xs) (hL : L ≤ 3072) {i : Int} (h0 : 0 ≤ i) (h6 : i + 6 ≤ L) {M : Mem} (hI : InvF M) (K : ∀ M2 : Mem, InvP M2 → V z g 4 M2 [(3, iv i), (2, rf g 78), (1, rf g 0), (0, .ref b)] [] 1219) : V z g 4 M [(3, iv i), (2, rf g 78), (1, rf g 0), (0, .ref b)] [] 316 := by
  refine v_aload_n ok 2 dL_law_316 rfl rfl ?_
  refine v_aload_n ok 3 dL_law_317 rfl rfl ?_
  refine v_iload_n ok 0 dL_law_318 rfl rfl ?_
  refine v_iconst (n := 1) ok dL_law_319 ?_
  refine v_iadd ok dL_law_320 ?_
  refine v_sld ok hX (by omega) (by omega) hL dL_law_321 ?_
  refine v_callV (na := 1) (i := 0) (C := RX9) (T := TX9) (N := 9) (f0 := (M 0)) ok (ct_X9_take z.2.1 g M (sx xs (i + 1)) (i32_of _) (hI.1.1.site hI.1.2) (hI.1.1.told hI.1.2)) gL_law_X9_take (kd_lt (show kd 0 = 9 from rfl) (by decide)) rfl rfl (cellF_9 _ rfl) rfl (by decide +kernel) rfl (by decide) [] rfl (Nat.le_of_ble_eq_true rfl) dL_law_322 (fun v1 M1 hp1 => ?_)
  obtain ⟨⟨y, rfl⟩, hk⟩ := kp_take (inv_m hI) hp1
  have e78 : M1 78 = M 78 := hk 78 (by decide)
  have e79 : M1 79 = M 79 := hk 79 (by decide)
  have e82 : M1 82 = M 82 := hk 82 (by decide)
  have e92 : M1 92 = M 92 := hk 92 (by decide)
  have e93 : M1 93 = M 93 := hk 93 (by decide)
  have e94 : M1 94 = M 94 := hk 94 (by decide)
  show V z g 4 M1 [(3, iv i), (2, rf g 78), (1, rf g 0), (0, .ref b)] [iv y] 325
  refine v_aload_n ok 1 dL_law_325 rfl rfl ?_
  refine v_aload_n ok 3 dL_law_326 rfl rfl ?_
  refine v_iload_n ok 0 dL_law_327 rfl rfl ?_
  refine v_iconst (n := 1) ok dL_law_328 ?_
  refine v_iadd ok dL_law_329 ?_
  refine v_sld ok hX (by omega) (by omega) hL dL_law_330 ?_
  refine v_callV (na := 1) (i := 78) (C := RX10) (T := TX10) (N := 22) (f0 := (M1 78)) ok (ct_X10_take z.2.1 g M1 (sx xs (i + 1)) (i32_of _) (by rw [e79]; exact hI.1.2)) gL_law_X10_take (kd_lt (show kd 78 = 10 from rfl) (by decide)) rfl rfl (cellF_10 _ rfl) rfl (by decide +kernel) rfl (by decide) [iv y] rfl (Nat.le_of_ble_eq_true rfl) dL_law_331 (fun v2 M2 hp2 => ?_)
  obtain ⟨x, q1, q2, hP⟩ := pr_take hI hp1 hp2
  have q3 : (iv y : Value) = iv x := Option.some.inj q1
  rw [q2]
  show V z g 4 M2 [(3, iv i), (2, rf g 78), (1, rf g 0), (0, .ref b)] [iv x, iv y] 334
  rw [q3]
  exact v_same ok dL_law_334 (by decide) (K M2 hP)
set_option maxRecDepth 100000 in
set_option maxHeartbeats 800000 in
theorem lc_feed {z : Fz} {g : Gl} {b L : Nat} {xs : Nat → Int32} (ok : Ok z g code 4 RL wsL_law 9 320) (hX : SX z g b L xs) (hL : L ≤ 3072) {i : Int} (h0 : 0 ≤ i) (h6 : i + 6 ≤ L) {M : Mem} (hI : InvF M) (K : ∀ M2 : Mem, InvP M2 → V z g 4 M2 [(3, iv i), (2, rf g 78), (1, rf g 0), (0, .ref b)] [] 1219) : V z g 4 M [(3, iv i), (2, rf g 78), (1, rf g 0), (0, .ref b)] [] 339 := by
  refine v_aload_n ok 2 dL_law_339 rfl rfl ?_
  refine v_aload_n ok 3 dL_law_340 rfl rfl ?_
  refine v_iload_n ok 0 dL_law_341 rfl rfl ?_
  refine v_iconst (n := 1) ok dL_law_342 ?_
  refine v_iadd ok dL_law_343 ?_
  refine v_sld ok hX (by omega) (by omega) hL dL_law_344 ?_
  refine v_callV (na := 1) (i := 0) (C := RX9) (T := TX9) (N := 9) (f0 := (M 0)) ok (ct_X9_feed z.2.1 g M (sx xs (i + 1)) (i32_of _) (inv_L hI)) gL_law_X9_feed (kd_lt (show kd 0 = 9 from rfl) (by decide)) rfl rfl (cellF_9 _ rfl) rfl (by decide +kernel) rfl (by decide) [] rfl (Nat.le_of_ble_eq_true rfl) dL_law_345 (fun v1 M1 hp1 => ?_)
  obtain ⟨⟨y, rfl⟩, hk⟩ := kp_feed (inv_m hI) hp1
  have e78 : M1 78 = M 78 := hk 78 (by decide)
  have e79 : M1 79 = M 79 := hk 79 (by decide)
  have e82 : M1 82 = M 82 := hk 82 (by decide)
  have e92 : M1 92 = M 92 := hk 92 (by decide)
  have e93 : M1 93 = M 93 := hk 93 (by decide)
  have e94 : M1 94 = M 94 := hk 94 (by decide)
  show V z g 4 M1 [(3, iv i), (2, rf g 78), (1, rf g 0), (0, .ref b)] [iv y] 348
  refine v_aload_n ok 1 dL_law_348 rfl rfl ?_
  refine v_aload_n ok 3 dL_law_349 rfl rfl ?_
  refine v_iload_n ok 0 dL_law_350 rfl rfl ?_
  refine v_iconst (n := 1) ok dL_law_351 ?_
  refine v_iadd ok dL_law_352 ?_
  refine v_sld ok hX (by omega) (by omega) hL dL_law_353 ?_
  refine v_callV (na := 1) (i := 78) (C := RX10) (T := TX10) (N := 22) (f0 := (M1 78)) ok (ct_X10_feed z.2.1 g M1 (sx xs (i + 1)) (i32_of _) (by rw [e78]; exact hI.2.2.2.2.2.1.2.1)) gL_law_X10_feed (kd_lt (show kd 78 = 10 from rfl) (by decide)) rfl rfl (cellF_10 _ rfl) rfl (by decide +kernel) rfl (by decide) [iv y] rfl (Nat.le_of_ble_eq_true rfl) dL_law_354 (fun v2 M2 hp2 => ?_)
  obtain ⟨x, q1, q2, hP⟩ := pr_feed hI hp1 hp2
  have q3 : (iv y : Value) = iv x := Option.some.inj q1
  rw [q2]
  show V z g 4 M2 [(3, iv i), (2, rf g 78), (1, rf g 0), (0, .ref b)] [iv x, iv y] 357
  rw [q3]
  exact v_same ok dL_law_357 (by decide) (K M2 hP)
set_option maxRecDepth 100000 in
set_option maxHeartbeats 800000 in
theorem lc_read {z : Fz} {g : Gl} {b L : Nat} {xs : Nat → Int32} (ok : Ok z g code 4 RL wsL_law 9 320) (hX : SX z g b L xs) (hL : L ≤ 3072) {i : Int} (h0 : 0 ≤ i) (h6 : i + 6 ≤ L) {M : Mem} (hI : InvF M) (K : ∀ M2 : Mem, InvP M2 → V z g 4 M2 [(3, iv i), (2, rf g 78), (1, rf g 0), (0, .ref b)] [] 1219) : V z g 4 M [(3, iv i), (2, rf g 78), (1, rf g 0), (0, .ref b)] [] 362 := by
  refine v_aload_n ok 2 dL_law_362 rfl rfl ?_
  refine v_callV (na := 0) (i := 0) (C := RX9) (T := TX9) (N := 9) (f0 := (M 0)) ok (ct_X9_read z.2.1 g M (M 79) hI.1.1 hI.1.2 (inv_L hI) (inv_G hI)) gL_law_X9_read (kd_lt (show kd 0 = 9 from rfl) (by decide)) rfl rfl (cellF_9 _ rfl) rfl (by decide +kernel) rfl (by decide) [] rfl (Nat.le_of_ble_eq_true rfl) dL_law_363 (fun v1 M1 hp1 => ?_)
  obtain ⟨⟨y, rfl⟩, hk⟩ := kp_read (inv_m hI) hp1
  have e78 : M1 78 = M 78 := hk 78 (by decide)
  have e79 : M1 79 = M 79 := hk 79 (by decide)
  have e82 : M1 82 = M 82 := hk 82 (by decide)
  have e92 : M1 92 = M 92 := hk 92 (by decide)
  have e93 : M1 93 = M 93 := hk 93 (by decide)
  have e94 : M1 94 = M 94 := hk 94 (by decide)
  show V z g 4 M1 [(3, iv i), (2, rf g 78), (1, rf g 0), (0, .ref b)] [iv y] 366
  refine v_aload_n ok 1 dL_law_366 rfl rfl ?_
  refine v_callV (na := 0) (i := 78) (C := RX10) (T := TX10) (N := 22) (f0 := (M1 78)) ok (ct_X10_read z.2.1 g M1  (by rw [e78]; exact hI.2.2.2.2.2.1.2.1) (by rw [e82]; exact hI.2.2.2.2.2.1.2.2) (by rw [e79]; exact hI.1.2)) gL_law_X10_read (kd_lt (show kd 78 = 10 from rfl) (by decide)) rfl rfl (cellF_10 _ rfl) rfl (by decide +kernel) rfl (by decide) [iv y] rfl (Nat.le_of_ble_eq_true rfl) dL_law_367 (fun v2 M2 hp2 => ?_)
  obtain ⟨x, q1, q2, hP⟩ := pr_read hI hp1 hp2
  have q3 : (iv y : Value) = iv x := Option.some.inj q1
  rw [q2]
  show V z g 4 M2 [(3, iv i), (2, rf g 78), (1, rf g 0), (0, .ref b)] [iv x, iv y] 370
  rw [q3]
  exact v_same ok dL_law_370 (by decide) (K M2 hP)
set_option maxRecDepth 100000 in
set_option maxHeartbeats 800000 in
theorem lc_of {z : Fz} {g : Gl} {b L : Nat} {xs : Nat → Int32} (ok : Ok z g code 4 RL wsL_law 9 320) (hX : SX z g b L xs) (hL : L ≤ 3072) {i : Int} (h0 : 0 ≤ i) (h6 : i + 6 ≤ L) {M : Mem} (hI : InvF M) (K : ∀ M2 : Mem, InvP M2 → V z g 4 M2 [(3, iv i), (2, rf g 78), (1, rf g 0), (0, .ref b)] [] 1219) : V z g 4 M [(3, iv i), (2, rf g 78), (1, rf g 0), (0, .ref b)] [] 375 := by
  refine v_aload_n ok 2 dL_law_375 rfl rfl ?_
  refine v_aload_n ok 3 dL_law_376 rfl rfl ?_
  refine v_iload_n ok 0 dL_law_377 rfl rfl ?_
  refine v_iconst (n := 1) ok dL_law_378 ?_
  refine v_iadd ok dL_law_379 ?_
  refine v_sld ok hX (by omega) (by omega) hL dL_law_380 ?_
  refine v_aload_n ok 3 dL_law_381 rfl rfl ?_
  refine v_iload_n ok 0 dL_law_382 rfl rfl ?_
  refine v_iconst (n := 2) ok dL_law_383 ?_
  refine v_iadd ok dL_law_384 ?_
  refine v_sld ok hX (by omega) (by omega) hL dL_law_385 ?_
  refine v_callV (na := 2) (i := 0) (C := RX9) (T := TX9) (N := 9) (f0 := (M 0)) ok (ct_X9_of z.2.1 g M (sx xs (i + 1)) (sx xs (i + 2)) (i32_of _) (i32_of _) (hI.1.1.site hI.1.2)) gL_law_X9_of (kd_lt (show kd 0 = 9 from rfl) (by decide)) rfl rfl (cellF_9 _ rfl) rfl (by decide +kernel) rfl (by decide) [] rfl (Nat.le_of_ble_eq_true rfl) dL_law_386 (fun v1 M1 hp1 => ?_)
  obtain ⟨⟨y, rfl⟩, hk⟩ := kp_of (inv_m hI) hp1
  have e78 : M1 78 = M 78 := hk 78 (by decide)
  have e79 : M1 79 = M 79 := hk 79 (by decide)
  have e82 : M1 82 = M 82 := hk 82 (by decide)
  have e92 : M1 92 = M 92 := hk 92 (by decide)
  have e93 : M1 93 = M 93 := hk 93 (by decide)
  have e94 : M1 94 = M 94 := hk 94 (by decide)
  show V z g 4 M1 [(3, iv i), (2, rf g 78), (1, rf g 0), (0, .ref b)] [iv y] 389
  refine v_aload_n ok 1 dL_law_389 rfl rfl ?_
  refine v_aload_n ok 3 dL_law_390 rfl rfl ?_
  refine v_iload_n ok 0 dL_law_391 rfl rfl ?_
  refine v_iconst (n := 1) ok dL_law_392 ?_
  refine v_iadd ok dL_law_393 ?_
  refine v_sld ok hX (by omega) (by omega) hL dL_law_394 ?_
  refine v_aload_n ok 3 dL_law_395 rfl rfl ?_
  refine v_iload_n ok 0 dL_law_396 rfl rfl ?_
  refine v_iconst (n := 2) ok dL_law_397 ?_
  refine v_iadd ok dL_law_398 ?_
  refine v_sld ok hX (by omega) (by omega) hL dL_law_399 ?_
  refine v_callV (na := 2) (i := 78) (C := RX10) (T := TX10) (N := 22) (f0 := (M1 78)) ok (ct_X10_of z.2.1 g M1 (sx xs (i + 1)) (sx xs (i + 2)) (i32_of _) (i32_of _) (by rw [e79]; exact hI.1.2)) gL_law_X10_of (kd_lt (show kd 78 = 10 from rfl) (by decide)) rfl rfl (cellF_10 _ rfl) rfl (by decide +kernel) rfl (by decide) [iv y] rfl (Nat.le_of_ble_eq_true rfl) dL_law_400 (fun v2 M2 hp2 => ?_)
  obtain ⟨x, q1, q2, hP⟩ := pr_of hI hp1 hp2
  have q3 : (iv y : Value) = iv x := Option.some.inj q1
  rw [q2]
  show V z g 4 M2 [(3, iv i), (2, rf g 78), (1, rf g 0), (0, .ref b)] [iv x, iv y] 403
  rw [q3]
  exact v_same ok dL_law_403 (by decide) (K M2 hP)
set_option maxRecDepth 100000 in
set_option maxHeartbeats 800000 in
theorem lc_told {z : Fz} {g : Gl} {b L : Nat} {xs : Nat → Int32} (ok : Ok z g code 4 RL wsL_law 9 320) (hX : SX z g b L xs) (hL : L ≤ 3072) {i : Int} (h0 : 0 ≤ i) (h6 : i + 6 ≤ L) {M : Mem} (hI : InvF M) (K : ∀ M2 : Mem, InvP M2 → V z g 4 M2 [(3, iv i), (2, rf g 78), (1, rf g 0), (0, .ref b)] [] 1219) : V z g 4 M [(3, iv i), (2, rf g 78), (1, rf g 0), (0, .ref b)] [] 408 := by
  refine v_aload_n ok 2 dL_law_408 rfl rfl ?_
  refine v_aload_n ok 3 dL_law_409 rfl rfl ?_
  refine v_iload_n ok 0 dL_law_410 rfl rfl ?_
  refine v_iconst (n := 1) ok dL_law_411 ?_
  refine v_iadd ok dL_law_412 ?_
  refine v_sld ok hX (by omega) (by omega) hL dL_law_413 ?_
  refine v_aload_n ok 3 dL_law_414 rfl rfl ?_
  refine v_iload_n ok 0 dL_law_415 rfl rfl ?_
  refine v_iconst (n := 2) ok dL_law_416 ?_
  refine v_iadd ok dL_law_417 ?_
  refine v_sld ok hX (by omega) (by omega) hL dL_law_418 ?_
  refine v_callV (na := 2) (i := 0) (C := RX9) (T := TX9) (N := 9) (f0 := (M 0)) ok (ct_X9_told z.2.1 g M (sx xs (i + 1)) (sx xs (i + 2)) (i32_of _) (i32_of _) (hI.1.1.site hI.1.2)) gL_law_X9_told (kd_lt (show kd 0 = 9 from rfl) (by decide)) rfl rfl (cellF_9 _ rfl) rfl (by decide +kernel) rfl (by decide) [] rfl (Nat.le_of_ble_eq_true rfl) dL_law_419 (fun v1 M1 hp1 => ?_)
  obtain ⟨⟨y, rfl⟩, hk⟩ := kp_told (inv_m hI) hp1
  have e78 : M1 78 = M 78 := hk 78 (by decide)
  have e79 : M1 79 = M 79 := hk 79 (by decide)
  have e82 : M1 82 = M 82 := hk 82 (by decide)
  have e92 : M1 92 = M 92 := hk 92 (by decide)
  have e93 : M1 93 = M 93 := hk 93 (by decide)
  have e94 : M1 94 = M 94 := hk 94 (by decide)
  show V z g 4 M1 [(3, iv i), (2, rf g 78), (1, rf g 0), (0, .ref b)] [iv y] 422
  refine v_aload_n ok 1 dL_law_422 rfl rfl ?_
  refine v_aload_n ok 3 dL_law_423 rfl rfl ?_
  refine v_iload_n ok 0 dL_law_424 rfl rfl ?_
  refine v_iconst (n := 1) ok dL_law_425 ?_
  refine v_iadd ok dL_law_426 ?_
  refine v_sld ok hX (by omega) (by omega) hL dL_law_427 ?_
  refine v_aload_n ok 3 dL_law_428 rfl rfl ?_
  refine v_iload_n ok 0 dL_law_429 rfl rfl ?_
  refine v_iconst (n := 2) ok dL_law_430 ?_
  refine v_iadd ok dL_law_431 ?_
  refine v_sld ok hX (by omega) (by omega) hL dL_law_432 ?_
  refine v_callV (na := 2) (i := 78) (C := RX10) (T := TX10) (N := 22) (f0 := (M1 78)) ok (ct_X10_told z.2.1 g M1 (sx xs (i + 1)) (sx xs (i + 2)) (i32_of _) (i32_of _) (by rw [e79]; exact hI.1.2)) gL_law_X10_told (kd_lt (show kd 78 = 10 from rfl) (by decide)) rfl rfl (cellF_10 _ rfl) rfl (by decide +kernel) rfl (by decide) [iv y] rfl (Nat.le_of_ble_eq_true rfl) dL_law_433 (fun v2 M2 hp2 => ?_)
  obtain ⟨x, q1, q2, hP⟩ := pr_told hI hp1 hp2
  have q3 : (iv y : Value) = iv x := Option.some.inj q1
  rw [q2]
  show V z g 4 M2 [(3, iv i), (2, rf g 78), (1, rf g 0), (0, .ref b)] [iv x, iv y] 436
  rw [q3]
  exact v_same ok dL_law_436 (by decide) (K M2 hP)
set_option maxRecDepth 100000 in
set_option maxHeartbeats 800000 in
theorem lc_flow {z : Fz} {g : Gl} {b L : Nat} {xs : Nat → Int32} (ok : Ok z g code 4 RL wsL_law 9 320) (hX : SX z g b L xs) (hL : L ≤ 3072) {i : Int} (h0 : 0 ≤ i) (h6 : i + 6 ≤ L) {M : Mem} (hI : InvF M) (K : ∀ M2 : Mem, InvP M2 → V z g 4 M2 [(3, iv i), (2, rf g 78), (1, rf g 0), (0, .ref b)] [] 1219) : V z g 4 M [(3, iv i), (2, rf g 78), (1, rf g 0), (0, .ref b)] [] 441 := by
  refine v_aload_n ok 2 dL_law_441 rfl rfl ?_
  refine v_aload_n ok 3 dL_law_442 rfl rfl ?_
  refine v_iload_n ok 0 dL_law_443 rfl rfl ?_
  refine v_iconst (n := 1) ok dL_law_444 ?_
  refine v_iadd ok dL_law_445 ?_
  refine v_sld ok hX (by omega) (by omega) hL dL_law_446 ?_
  refine v_aload_n ok 3 dL_law_447 rfl rfl ?_
  refine v_iload_n ok 0 dL_law_448 rfl rfl ?_
  refine v_iconst (n := 2) ok dL_law_449 ?_
  refine v_iadd ok dL_law_450 ?_
  refine v_sld ok hX (by omega) (by omega) hL dL_law_451 ?_
  refine v_aload_n ok 3 dL_law_452 rfl rfl ?_
  refine v_iload_n ok 0 dL_law_453 rfl rfl ?_
  refine v_iconst (n := 3) ok dL_law_454 ?_
  refine v_iadd ok dL_law_455 ?_
  refine v_sld ok hX (by omega) (by omega) hL dL_law_456 ?_
  refine v_callV (na := 3) (i := 0) (C := RX9) (T := TX9) (N := 9) (f0 := (M 0)) ok (ct_X9_flow z.2.1 g M (sx xs (i + 1)) (sx xs (i + 2)) (sx xs (i + 3)) (i32_of _) (i32_of _) (i32_of _) (hI.1.1.site hI.1.2)) gL_law_X9_flow (kd_lt (show kd 0 = 9 from rfl) (by decide)) rfl rfl (cellF_9 _ rfl) rfl (by decide +kernel) rfl (by decide) [] rfl (Nat.le_of_ble_eq_true rfl) dL_law_457 (fun v1 M1 hp1 => ?_)
  obtain ⟨⟨y, rfl⟩, hk⟩ := kp_flow (inv_m hI) hp1
  have e78 : M1 78 = M 78 := hk 78 (by decide)
  have e79 : M1 79 = M 79 := hk 79 (by decide)
  have e82 : M1 82 = M 82 := hk 82 (by decide)
  have e92 : M1 92 = M 92 := hk 92 (by decide)
  have e93 : M1 93 = M 93 := hk 93 (by decide)
  have e94 : M1 94 = M 94 := hk 94 (by decide)
  show V z g 4 M1 [(3, iv i), (2, rf g 78), (1, rf g 0), (0, .ref b)] [iv y] 460
  refine v_aload_n ok 1 dL_law_460 rfl rfl ?_
  refine v_aload_n ok 3 dL_law_461 rfl rfl ?_
  refine v_iload_n ok 0 dL_law_462 rfl rfl ?_
  refine v_iconst (n := 1) ok dL_law_463 ?_
  refine v_iadd ok dL_law_464 ?_
  refine v_sld ok hX (by omega) (by omega) hL dL_law_465 ?_
  refine v_aload_n ok 3 dL_law_466 rfl rfl ?_
  refine v_iload_n ok 0 dL_law_467 rfl rfl ?_
  refine v_iconst (n := 2) ok dL_law_468 ?_
  refine v_iadd ok dL_law_469 ?_
  refine v_sld ok hX (by omega) (by omega) hL dL_law_470 ?_
  refine v_aload_n ok 3 dL_law_471 rfl rfl ?_
  refine v_iload_n ok 0 dL_law_472 rfl rfl ?_
  refine v_iconst (n := 3) ok dL_law_473 ?_
  refine v_iadd ok dL_law_474 ?_
  refine v_sld ok hX (by omega) (by omega) hL dL_law_475 ?_
  refine v_callV (na := 3) (i := 78) (C := RX10) (T := TX10) (N := 22) (f0 := (M1 78)) ok (ct_X10_flow z.2.1 g M1 (sx xs (i + 1)) (sx xs (i + 2)) (sx xs (i + 3)) (i32_of _) (i32_of _) (i32_of _) (by rw [e79]; exact hI.1.2)) gL_law_X10_flow (kd_lt (show kd 78 = 10 from rfl) (by decide)) rfl rfl (cellF_10 _ rfl) rfl (by decide +kernel) rfl (by decide) [iv y] rfl (Nat.le_of_ble_eq_true rfl) dL_law_476 (fun v2 M2 hp2 => ?_)
  obtain ⟨x, q1, q2, hP⟩ := pr_flow hI hp1 hp2
  have q3 : (iv y : Value) = iv x := Option.some.inj q1
  rw [q2]
  show V z g 4 M2 [(3, iv i), (2, rf g 78), (1, rf g 0), (0, .ref b)] [iv x, iv y] 479
  rw [q3]
  exact v_same ok dL_law_479 (by decide) (K M2 hP)
set_option maxRecDepth 100000 in
set_option maxHeartbeats 800000 in
theorem lc_row {z : Fz} {g : Gl} {b L : Nat} {xs : Nat → Int32} (ok : Ok z g code 4 RL wsL_law 9 320) (hX : SX z g b L xs) (hL : L ≤ 3072) {i : Int} (h0 : 0 ≤ i) (h6 : i + 6 ≤ L) {M : Mem} (hI : InvF M) (K : ∀ M2 : Mem, InvP M2 → V z g 4 M2 [(3, iv i), (2, rf g 78), (1, rf g 0), (0, .ref b)] [] 1219) : V z g 4 M [(3, iv i), (2, rf g 78), (1, rf g 0), (0, .ref b)] [] 484 := by
  refine v_aload_n ok 2 dL_law_484 rfl rfl ?_
  refine v_aload_n ok 3 dL_law_485 rfl rfl ?_
  refine v_iload_n ok 0 dL_law_486 rfl rfl ?_
  refine v_iconst (n := 1) ok dL_law_487 ?_
  refine v_iadd ok dL_law_488 ?_
  refine v_sld ok hX (by omega) (by omega) hL dL_law_489 ?_
  refine v_aload_n ok 3 dL_law_490 rfl rfl ?_
  refine v_iload_n ok 0 dL_law_491 rfl rfl ?_
  refine v_iconst (n := 2) ok dL_law_492 ?_
  refine v_iadd ok dL_law_493 ?_
  refine v_sld ok hX (by omega) (by omega) hL dL_law_494 ?_
  refine v_callV (na := 2) (i := 0) (C := RX9) (T := TX9) (N := 9) (f0 := (M 0)) ok (ct_X9_row z.2.1 g M (sx xs (i + 1)) (sx xs (i + 2)) (i32_of _) (i32_of _) (hI.1.1.site hI.1.2) (hI.1.1.told hI.1.2)) gL_law_X9_row (kd_lt (show kd 0 = 9 from rfl) (by decide)) rfl rfl (cellF_9 _ rfl) rfl (by decide +kernel) rfl (by decide) [] rfl (Nat.le_of_ble_eq_true rfl) dL_law_495 (fun v1 M1 hp1 => ?_)
  obtain ⟨⟨y, rfl⟩, hk⟩ := kp_row (inv_m hI) hp1
  have e78 : M1 78 = M 78 := hk 78 (by decide)
  have e79 : M1 79 = M 79 := hk 79 (by decide)
  have e82 : M1 82 = M 82 := hk 82 (by decide)
  have e92 : M1 92 = M 92 := hk 92 (by decide)
  have e93 : M1 93 = M 93 := hk 93 (by decide)
  have e94 : M1 94 = M 94 := hk 94 (by decide)
  show V z g 4 M1 [(3, iv i), (2, rf g 78), (1, rf g 0), (0, .ref b)] [iv y] 498
  refine v_aload_n ok 1 dL_law_498 rfl rfl ?_
  refine v_aload_n ok 3 dL_law_499 rfl rfl ?_
  refine v_iload_n ok 0 dL_law_500 rfl rfl ?_
  refine v_iconst (n := 1) ok dL_law_501 ?_
  refine v_iadd ok dL_law_502 ?_
  refine v_sld ok hX (by omega) (by omega) hL dL_law_503 ?_
  refine v_aload_n ok 3 dL_law_504 rfl rfl ?_
  refine v_iload_n ok 0 dL_law_505 rfl rfl ?_
  refine v_iconst (n := 2) ok dL_law_506 ?_
  refine v_iadd ok dL_law_507 ?_
  refine v_sld ok hX (by omega) (by omega) hL dL_law_508 ?_
  refine v_callV (na := 2) (i := 78) (C := RX10) (T := TX10) (N := 22) (f0 := (M1 78)) ok (ct_X10_row z.2.1 g M1 (sx xs (i + 1)) (sx xs (i + 2)) (i32_of _) (i32_of _) (by rw [e79]; exact hI.1.2)) gL_law_X10_row (kd_lt (show kd 78 = 10 from rfl) (by decide)) rfl rfl (cellF_10 _ rfl) rfl (by decide +kernel) rfl (by decide) [iv y] rfl (Nat.le_of_ble_eq_true rfl) dL_law_509 (fun v2 M2 hp2 => ?_)
  obtain ⟨x, q1, q2, hP⟩ := pr_row hI hp1 hp2
  have q3 : (iv y : Value) = iv x := Option.some.inj q1
  rw [q2]
  show V z g 4 M2 [(3, iv i), (2, rf g 78), (1, rf g 0), (0, .ref b)] [iv x, iv y] 512
  rw [q3]
  exact v_same ok dL_law_512 (by decide) (K M2 hP)
set_option maxRecDepth 100000 in
set_option maxHeartbeats 800000 in
theorem lc_basins {z : Fz} {g : Gl} {b L : Nat} {xs : Nat → Int32} (ok : Ok z g code 4 RL wsL_law 9 320) (hX : SX z g b L xs) (hL : L ≤ 3072) {i : Int} (h0 : 0 ≤ i) (h6 : i + 6 ≤ L) {M : Mem} (hI : InvF M) (K : ∀ M2 : Mem, InvP M2 → V z g 4 M2 [(3, iv i), (2, rf g 78), (1, rf g 0), (0, .ref b)] [] 1219) : V z g 4 M [(3, iv i), (2, rf g 78), (1, rf g 0), (0, .ref b)] [] 517 := by
  refine v_aload_n ok 2 dL_law_517 rfl rfl ?_
  refine v_callV (na := 0) (i := 0) (C := RX9) (T := TX9) (N := 9) (f0 := (M 0)) ok (ct_X9_basins z.2.1 g M  ) gL_law_X9_basins (kd_lt (show kd 0 = 9 from rfl) (by decide)) rfl rfl (cellF_9 _ rfl) rfl (by decide +kernel) rfl (by decide) [] rfl (Nat.le_of_ble_eq_true rfl) dL_law_518 (fun v1 M1 hp1 => ?_)
  obtain ⟨⟨y, rfl⟩, hk⟩ := kp_basins (inv_m hI) hp1
  have e78 : M1 78 = M 78 := hk 78 (by decide)
  have e79 : M1 79 = M 79 := hk 79 (by decide)
  have e82 : M1 82 = M 82 := hk 82 (by decide)
  have e92 : M1 92 = M 92 := hk 92 (by decide)
  have e93 : M1 93 = M 93 := hk 93 (by decide)
  have e94 : M1 94 = M 94 := hk 94 (by decide)
  show V z g 4 M1 [(3, iv i), (2, rf g 78), (1, rf g 0), (0, .ref b)] [iv y] 521
  refine v_aload_n ok 1 dL_law_521 rfl rfl ?_
  refine v_callV (na := 0) (i := 78) (C := RX10) (T := TX10) (N := 22) (f0 := (M1 78)) ok (ct_X10_basins z.2.1 g M1  ) gL_law_X10_basins (kd_lt (show kd 78 = 10 from rfl) (by decide)) rfl rfl (cellF_10 _ rfl) rfl (by decide +kernel) rfl (by decide) [iv y] rfl (Nat.le_of_ble_eq_true rfl) dL_law_522 (fun v2 M2 hp2 => ?_)
  obtain ⟨x, q1, q2, hP⟩ := pr_basins hI hp1 hp2
  have q3 : (iv y : Value) = iv x := Option.some.inj q1
  rw [q2]
  show V z g 4 M2 [(3, iv i), (2, rf g 78), (1, rf g 0), (0, .ref b)] [iv x, iv y] 525
  rw [q3]
  exact v_same ok dL_law_525 (by decide) (K M2 hP)
set_option maxRecDepth 100000 in
set_option maxHeartbeats 800000 in
theorem lc_flaw {z : Fz} {g : Gl} {b L : Nat} {xs : Nat → Int32} (ok : Ok z g code 4 RL wsL_law 9 320) (hX : SX z g b L xs) (hL : L ≤ 3072) {i : Int} (h0 : 0 ≤ i) (h6 : i + 6 ≤ L) {M : Mem} (hI : InvF M) (K : ∀ M2 : Mem, InvP M2 → V z g 4 M2 [(3, iv i), (2, rf g 78), (1, rf g 0), (0, .ref b)] [] 1219) : V z g 4 M [(3, iv i), (2, rf g 78), (1, rf g 0), (0, .ref b)] [] 530 := by
  refine v_aload_n ok 2 dL_law_530 rfl rfl ?_
  refine v_aload_n ok 3 dL_law_531 rfl rfl ?_
  refine v_iload_n ok 0 dL_law_532 rfl rfl ?_
  refine v_iconst (n := 1) ok dL_law_533 ?_
  refine v_iadd ok dL_law_534 ?_
  refine v_sld ok hX (by omega) (by omega) hL dL_law_535 ?_
  refine v_callV (na := 1) (i := 0) (C := RX9) (T := TX9) (N := 9) (f0 := (M 0)) ok (ct_X9_flaw z.2.1 g M (sx xs (i + 1)) (i32_of _) (hI.1.1.site hI.1.2) (hI.1.1.told hI.1.2)) gL_law_X9_flaw (kd_lt (show kd 0 = 9 from rfl) (by decide)) rfl rfl (cellF_9 _ rfl) rfl (by decide +kernel) rfl (by decide) [] rfl (Nat.le_of_ble_eq_true rfl) dL_law_536 (fun v1 M1 hp1 => ?_)
  obtain ⟨⟨y, rfl⟩, hk⟩ := kp_flaw (inv_m hI) hp1
  have e78 : M1 78 = M 78 := hk 78 (by decide)
  have e79 : M1 79 = M 79 := hk 79 (by decide)
  have e82 : M1 82 = M 82 := hk 82 (by decide)
  have e92 : M1 92 = M 92 := hk 92 (by decide)
  have e93 : M1 93 = M 93 := hk 93 (by decide)
  have e94 : M1 94 = M 94 := hk 94 (by decide)
  show V z g 4 M1 [(3, iv i), (2, rf g 78), (1, rf g 0), (0, .ref b)] [iv y] 539
  refine v_aload_n ok 1 dL_law_539 rfl rfl ?_
  refine v_aload_n ok 3 dL_law_540 rfl rfl ?_
  refine v_iload_n ok 0 dL_law_541 rfl rfl ?_
  refine v_iconst (n := 1) ok dL_law_542 ?_
  refine v_iadd ok dL_law_543 ?_
  refine v_sld ok hX (by omega) (by omega) hL dL_law_544 ?_
  refine v_callV (na := 1) (i := 78) (C := RX10) (T := TX10) (N := 22) (f0 := (M1 78)) ok (ct_X10_flaw z.2.1 g M1 (sx xs (i + 1)) (i32_of _) (by rw [e79]; exact hI.1.2)) gL_law_X10_flaw (kd_lt (show kd 78 = 10 from rfl) (by decide)) rfl rfl (cellF_10 _ rfl) rfl (by decide +kernel) rfl (by decide) [iv y] rfl (Nat.le_of_ble_eq_true rfl) dL_law_545 (fun v2 M2 hp2 => ?_)
  obtain ⟨x, q1, q2, hP⟩ := pr_flaw hI hp1 hp2
  have q3 : (iv y : Value) = iv x := Option.some.inj q1
  rw [q2]
  show V z g 4 M2 [(3, iv i), (2, rf g 78), (1, rf g 0), (0, .ref b)] [iv x, iv y] 548
  rw [q3]
  exact v_same ok dL_law_548 (by decide) (K M2 hP)
set_option maxRecDepth 100000 in
set_option maxHeartbeats 800000 in
theorem lc_unfold {z : Fz} {g : Gl} {b L : Nat} {xs : Nat → Int32} (ok : Ok z g code 4 RL wsL_law 9 320) (hX : SX z g b L xs) (hL : L ≤ 3072) {i : Int} (h0 : 0 ≤ i) (h6 : i + 6 ≤ L) {M : Mem} (hI : InvF M) (K : ∀ M2 : Mem, InvP M2 → V z g 4 M2 [(3, iv i), (2, rf g 78), (1, rf g 0), (0, .ref b)] [] 1219) : V z g 4 M [(3, iv i), (2, rf g 78), (1, rf g 0), (0, .ref b)] [] 553 := by
  refine v_aload_n ok 2 dL_law_553 rfl rfl ?_
  refine v_aload_n ok 3 dL_law_554 rfl rfl ?_
  refine v_iload_n ok 0 dL_law_555 rfl rfl ?_
  refine v_iconst (n := 1) ok dL_law_556 ?_
  refine v_iadd ok dL_law_557 ?_
  refine v_sld ok hX (by omega) (by omega) hL dL_law_558 ?_
  refine v_aload_n ok 3 dL_law_559 rfl rfl ?_
  refine v_iload_n ok 0 dL_law_560 rfl rfl ?_
  refine v_iconst (n := 2) ok dL_law_561 ?_
  refine v_iadd ok dL_law_562 ?_
  refine v_sld ok hX (by omega) (by omega) hL dL_law_563 ?_
  refine v_callV (na := 2) (i := 0) (C := RX9) (T := TX9) (N := 9) (f0 := (M 0)) ok (ct_X9_unfold z.2.1 g M (sx xs (i + 1)) (sx xs (i + 2)) (i32_of _) (i32_of _) (hI.1.1.site hI.1.2) (hI.1.1.told hI.1.2)) gL_law_X9_unfold (kd_lt (show kd 0 = 9 from rfl) (by decide)) rfl rfl (cellF_9 _ rfl) rfl (by decide +kernel) rfl (by decide) [] rfl (Nat.le_of_ble_eq_true rfl) dL_law_564 (fun v1 M1 hp1 => ?_)
  obtain ⟨⟨y, rfl⟩, hk⟩ := kp_unfold (inv_m hI) hp1
  have e78 : M1 78 = M 78 := hk 78 (by decide)
  have e79 : M1 79 = M 79 := hk 79 (by decide)
  have e82 : M1 82 = M 82 := hk 82 (by decide)
  have e92 : M1 92 = M 92 := hk 92 (by decide)
  have e93 : M1 93 = M 93 := hk 93 (by decide)
  have e94 : M1 94 = M 94 := hk 94 (by decide)
  show V z g 4 M1 [(3, iv i), (2, rf g 78), (1, rf g 0), (0, .ref b)] [iv y] 567
  refine v_aload_n ok 1 dL_law_567 rfl rfl ?_
  refine v_aload_n ok 3 dL_law_568 rfl rfl ?_
  refine v_iload_n ok 0 dL_law_569 rfl rfl ?_
  refine v_iconst (n := 1) ok dL_law_570 ?_
  refine v_iadd ok dL_law_571 ?_
  refine v_sld ok hX (by omega) (by omega) hL dL_law_572 ?_
  refine v_aload_n ok 3 dL_law_573 rfl rfl ?_
  refine v_iload_n ok 0 dL_law_574 rfl rfl ?_
  refine v_iconst (n := 2) ok dL_law_575 ?_
  refine v_iadd ok dL_law_576 ?_
  refine v_sld ok hX (by omega) (by omega) hL dL_law_577 ?_
  refine v_callV (na := 2) (i := 78) (C := RX10) (T := TX10) (N := 22) (f0 := (M1 78)) ok (ct_X10_unfold z.2.1 g M1 (sx xs (i + 1)) (sx xs (i + 2)) (i32_of _) (i32_of _) (by rw [e79]; exact hI.1.2)) gL_law_X10_unfold (kd_lt (show kd 78 = 10 from rfl) (by decide)) rfl rfl (cellF_10 _ rfl) rfl (by decide +kernel) rfl (by decide) [iv y] rfl (Nat.le_of_ble_eq_true rfl) dL_law_578 (fun v2 M2 hp2 => ?_)
  obtain ⟨x, q1, q2, hP⟩ := pr_unfold hI hp1 hp2
  have q3 : (iv y : Value) = iv x := Option.some.inj q1
  rw [q2]
  show V z g 4 M2 [(3, iv i), (2, rf g 78), (1, rf g 0), (0, .ref b)] [iv x, iv y] 581
  rw [q3]
  exact v_same ok dL_law_581 (by decide) (K M2 hP)
set_option maxRecDepth 100000 in
set_option maxHeartbeats 800000 in
theorem lc_backFlaw {z : Fz} {g : Gl} {b L : Nat} {xs : Nat → Int32} (ok : Ok z g code 4 RL wsL_law 9 320) (hX : SX z g b L xs) (hL : L ≤ 3072) {i : Int} (h0 : 0 ≤ i) (h6 : i + 6 ≤ L) {M : Mem} (hI : InvF M) (K : ∀ M2 : Mem, InvP M2 → V z g 4 M2 [(3, iv i), (2, rf g 78), (1, rf g 0), (0, .ref b)] [] 1219) : V z g 4 M [(3, iv i), (2, rf g 78), (1, rf g 0), (0, .ref b)] [] 586 := by
  refine v_aload_n ok 2 dL_law_586 rfl rfl ?_
  refine v_callV (na := 0) (i := 0) (C := RX9) (T := TX9) (N := 9) (f0 := (M 0)) ok (ct_X9_backFlaw z.2.1 g M  (inv_rain hI) (hI.1.1.told hI.1.2)) gL_law_X9_backFlaw (kd_lt (show kd 0 = 9 from rfl) (by decide)) rfl rfl (cellF_9 _ rfl) rfl (by decide +kernel) rfl (by decide) [] rfl (Nat.le_of_ble_eq_true rfl) dL_law_587 (fun v1 M1 hp1 => ?_)
  obtain ⟨⟨y, rfl⟩, hk⟩ := kp_backFlaw (inv_m hI) hp1
  have e78 : M1 78 = M 78 := hk 78 (by decide)
  have e79 : M1 79 = M 79 := hk 79 (by decide)
  have e82 : M1 82 = M 82 := hk 82 (by decide)
  have e92 : M1 92 = M 92 := hk 92 (by decide)
  have e93 : M1 93 = M 93 := hk 93 (by decide)
  have e94 : M1 94 = M 94 := hk 94 (by decide)
  show V z g 4 M1 [(3, iv i), (2, rf g 78), (1, rf g 0), (0, .ref b)] [iv y] 590
  refine v_aload_n ok 1 dL_law_590 rfl rfl ?_
  refine v_callV (na := 0) (i := 78) (C := RX10) (T := TX10) (N := 22) (f0 := (M1 78)) ok (ct_X10_backFlaw z.2.1 g M1  (by rw [e79]; exact hI.1.2)) gL_law_X10_backFlaw (kd_lt (show kd 78 = 10 from rfl) (by decide)) rfl rfl (cellF_10 _ rfl) rfl (by decide +kernel) rfl (by decide) [iv y] rfl (Nat.le_of_ble_eq_true rfl) dL_law_591 (fun v2 M2 hp2 => ?_)
  obtain ⟨x, q1, q2, hP⟩ := pr_backFlaw hI hp1 hp2
  have q3 : (iv y : Value) = iv x := Option.some.inj q1
  rw [q2]
  show V z g 4 M2 [(3, iv i), (2, rf g 78), (1, rf g 0), (0, .ref b)] [iv x, iv y] 594
  rw [q3]
  exact v_same ok dL_law_594 (by decide) (K M2 hP)
set_option maxRecDepth 100000 in
set_option maxHeartbeats 800000 in
theorem lc_back {z : Fz} {g : Gl} {b L : Nat} {xs : Nat → Int32} (ok : Ok z g code 4 RL wsL_law 9 320) (hX : SX z g b L xs) (hL : L ≤ 3072) {i : Int} (h0 : 0 ≤ i) (h6 : i + 6 ≤ L) {M : Mem} (hI : InvF M) (K : ∀ M2 : Mem, InvP M2 → V z g 4 M2 [(3, iv i), (2, rf g 78), (1, rf g 0), (0, .ref b)] [] 1219) : V z g 4 M [(3, iv i), (2, rf g 78), (1, rf g 0), (0, .ref b)] [] 599 := by
  refine v_aload_n ok 2 dL_law_599 rfl rfl ?_
  refine v_aload_n ok 3 dL_law_600 rfl rfl ?_
  refine v_iload_n ok 0 dL_law_601 rfl rfl ?_
  refine v_iconst (n := 1) ok dL_law_602 ?_
  refine v_iadd ok dL_law_603 ?_
  refine v_sld ok hX (by omega) (by omega) hL dL_law_604 ?_
  refine v_callV (na := 1) (i := 0) (C := RX9) (T := TX9) (N := 9) (f0 := (M 0)) ok (ct_X9_back z.2.1 g M (sx xs (i + 1)) (i32_of _) (inv_rain hI) (hI.1.1.told hI.1.2)) gL_law_X9_back (kd_lt (show kd 0 = 9 from rfl) (by decide)) rfl rfl (cellF_9 _ rfl) rfl (by decide +kernel) rfl (by decide) [] rfl (Nat.le_of_ble_eq_true rfl) dL_law_605 (fun v1 M1 hp1 => ?_)
  obtain ⟨⟨y, rfl⟩, hk⟩ := kp_back (inv_m hI) hp1
  have e78 : M1 78 = M 78 := hk 78 (by decide)
  have e79 : M1 79 = M 79 := hk 79 (by decide)
  have e82 : M1 82 = M 82 := hk 82 (by decide)
  have e92 : M1 92 = M 92 := hk 92 (by decide)
  have e93 : M1 93 = M 93 := hk 93 (by decide)
  have e94 : M1 94 = M 94 := hk 94 (by decide)
  show V z g 4 M1 [(3, iv i), (2, rf g 78), (1, rf g 0), (0, .ref b)] [iv y] 608
  refine v_aload_n ok 1 dL_law_608 rfl rfl ?_
  refine v_aload_n ok 3 dL_law_609 rfl rfl ?_
  refine v_iload_n ok 0 dL_law_610 rfl rfl ?_
  refine v_iconst (n := 1) ok dL_law_611 ?_
  refine v_iadd ok dL_law_612 ?_
  refine v_sld ok hX (by omega) (by omega) hL dL_law_613 ?_
  refine v_callV (na := 1) (i := 78) (C := RX10) (T := TX10) (N := 22) (f0 := (M1 78)) ok (ct_X10_back z.2.1 g M1 (sx xs (i + 1)) (i32_of _) (by rw [e79]; exact hI.1.2)) gL_law_X10_back (kd_lt (show kd 78 = 10 from rfl) (by decide)) rfl rfl (cellF_10 _ rfl) rfl (by decide +kernel) rfl (by decide) [iv y] rfl (Nat.le_of_ble_eq_true rfl) dL_law_614 (fun v2 M2 hp2 => ?_)
  obtain ⟨x, q1, q2, hP⟩ := pr_back hI hp1 hp2
  have q3 : (iv y : Value) = iv x := Option.some.inj q1
  rw [q2]
  show V z g 4 M2 [(3, iv i), (2, rf g 78), (1, rf g 0), (0, .ref b)] [iv x, iv y] 617
  rw [q3]
  exact v_same ok dL_law_617 (by decide) (K M2 hP)
set_option maxRecDepth 100000 in
set_option maxHeartbeats 800000 in
theorem lc_nearest {z : Fz} {g : Gl} {b L : Nat} {xs : Nat → Int32} (ok : Ok z g code 4 RL wsL_law 9 320) (hX : SX z g b L xs) (hL : L ≤ 3072) {i : Int} (h0 : 0 ≤ i) (h6 : i + 6 ≤ L) {M : Mem} (hI : InvF M) (K : ∀ M2 : Mem, InvP M2 → V z g 4 M2 [(3, iv i), (2, rf g 78), (1, rf g 0), (0, .ref b)] [] 1219) : V z g 4 M [(3, iv i), (2, rf g 78), (1, rf g 0), (0, .ref b)] [] 622 := by
  refine v_aload_n ok 2 dL_law_622 rfl rfl ?_
  refine v_aload_n ok 3 dL_law_623 rfl rfl ?_
  refine v_iload_n ok 0 dL_law_624 rfl rfl ?_
  refine v_iconst (n := 1) ok dL_law_625 ?_
  refine v_iadd ok dL_law_626 ?_
  refine v_sld ok hX (by omega) (by omega) hL dL_law_627 ?_
  refine v_aload_n ok 3 dL_law_628 rfl rfl ?_
  refine v_iload_n ok 0 dL_law_629 rfl rfl ?_
  refine v_iconst (n := 2) ok dL_law_630 ?_
  refine v_iadd ok dL_law_631 ?_
  refine v_sld ok hX (by omega) (by omega) hL dL_law_632 ?_
  refine v_callV (na := 2) (i := 0) (C := RX9) (T := TX9) (N := 9) (f0 := (M 0)) ok (ct_X9_nearest z.2.1 g M (sx xs (i + 1)) (sx xs (i + 2)) (i32_of _) (i32_of _) (hI.1.1.site hI.1.2) (hI.1.1.told hI.1.2)) gL_law_X9_nearest (kd_lt (show kd 0 = 9 from rfl) (by decide)) rfl rfl (cellF_9 _ rfl) rfl (by decide +kernel) rfl (by decide) [] rfl (Nat.le_of_ble_eq_true rfl) dL_law_633 (fun v1 M1 hp1 => ?_)
  obtain ⟨⟨y, rfl⟩, hk⟩ := kp_nearest (inv_m hI) hp1
  have e78 : M1 78 = M 78 := hk 78 (by decide)
  have e79 : M1 79 = M 79 := hk 79 (by decide)
  have e82 : M1 82 = M 82 := hk 82 (by decide)
  have e92 : M1 92 = M 92 := hk 92 (by decide)
  have e93 : M1 93 = M 93 := hk 93 (by decide)
  have e94 : M1 94 = M 94 := hk 94 (by decide)
  show V z g 4 M1 [(3, iv i), (2, rf g 78), (1, rf g 0), (0, .ref b)] [iv y] 636
  refine v_aload_n ok 1 dL_law_636 rfl rfl ?_
  refine v_aload_n ok 3 dL_law_637 rfl rfl ?_
  refine v_iload_n ok 0 dL_law_638 rfl rfl ?_
  refine v_iconst (n := 1) ok dL_law_639 ?_
  refine v_iadd ok dL_law_640 ?_
  refine v_sld ok hX (by omega) (by omega) hL dL_law_641 ?_
  refine v_aload_n ok 3 dL_law_642 rfl rfl ?_
  refine v_iload_n ok 0 dL_law_643 rfl rfl ?_
  refine v_iconst (n := 2) ok dL_law_644 ?_
  refine v_iadd ok dL_law_645 ?_
  refine v_sld ok hX (by omega) (by omega) hL dL_law_646 ?_
  refine v_callV (na := 2) (i := 78) (C := RX10) (T := TX10) (N := 22) (f0 := (M1 78)) ok (ct_X10_nearest z.2.1 g M1 (sx xs (i + 1)) (sx xs (i + 2)) (i32_of _) (i32_of _) (by rw [e79]; exact hI.1.2)) gL_law_X10_nearest (kd_lt (show kd 78 = 10 from rfl) (by decide)) rfl rfl (cellF_10 _ rfl) rfl (by decide +kernel) rfl (by decide) [iv y] rfl (Nat.le_of_ble_eq_true rfl) dL_law_647 (fun v2 M2 hp2 => ?_)
  obtain ⟨x, q1, q2, hP⟩ := pr_nearest hI hp1 hp2
  have q3 : (iv y : Value) = iv x := Option.some.inj q1
  rw [q2]
  show V z g 4 M2 [(3, iv i), (2, rf g 78), (1, rf g 0), (0, .ref b)] [iv x, iv y] 650
  rw [q3]
  exact v_same ok dL_law_650 (by decide) (K M2 hP)
