/-! The reference: one object, its arrays by their fields' places -/
theorem nl_0 : (0 : Int32) = nI 0 := rfl
theorem nl_1 : (1 : Int32) = nI 1 := rfl
theorem nl_2 : (2 : Int32) = nI 2 := rfl
theorem nl_3 : (3 : Int32) = nI 3 := rfl
theorem nl_4 : (4 : Int32) = nI 4 := rfl
theorem nl_5 : (5 : Int32) = nI 5 := rfl
theorem nl_6 : (6 : Int32) = nI 6 := rfl
theorem nl_7 : (7 : Int32) = nI 7 := rfl
theorem nl_8 : (8 : Int32) = nI 8 := rfl
theorem nl_9 : (9 : Int32) = nI 9 := rfl
theorem nl_10 : (10 : Int32) = nI 10 := rfl
theorem nl_11 : (11 : Int32) = nI 11 := rfl
theorem nl_12 : (12 : Int32) = nI 12 := rfl
theorem nl_13 : (13 : Int32) = nI 13 := rfl
theorem nl_14 : (14 : Int32) = nI 14 := rfl
theorem nl_15 : (15 : Int32) = nI 15 := rfl
theorem nl_16 : (16 : Int32) = nI 16 := rfl
theorem nl_32 : (32 : Int32) = nI 32 := rfl
theorem nl_240 : (240 : Int32) = nI 240 := rfl
theorem nl_241 : (241 : Int32) = nI 241 := rfl
theorem nl_242 : (242 : Int32) = nI 242 := rfl
theorem nl_243 : (243 : Int32) = nI 243 := rfl
theorem nl_244 : (244 : Int32) = nI 244 := rfl
theorem nl_245 : (245 : Int32) = nI 245 := rfl
theorem nl_246 : (246 : Int32) = nI 246 := rfl
theorem nl_247 : (247 : Int32) = nI 247 := rfl
theorem nl_248 : (248 : Int32) = nI 248 := rfl
theorem nl_249 : (249 : Int32) = nI 249 := rfl
theorem nl_250 : (250 : Int32) = nI 250 := rfl
theorem nl_251 : (251 : Int32) = nI 251 := rfl
theorem nl_252 : (252 : Int32) = nI 252 := rfl
theorem nl_253 : (253 : Int32) = nI 253 := rfl
theorem nl_254 : (254 : Int32) = nI 254 := rfl
theorem nl_255 : (255 : Int32) = nI 255 := rfl
theorem nl_256 : (256 : Int32) = nI 256 := rfl
theorem nl_257 : (257 : Int32) = nI 257 := rfl
theorem nl_258 : (258 : Int32) = nI 258 := rfl
theorem nl_259 : (259 : Int32) = nI 259 := rfl
theorem nl_260 : (260 : Int32) = nI 260 := rfl
theorem nl_261 : (261 : Int32) = nI 261 := rfl
theorem nl_262 : (262 : Int32) = nI 262 := rfl
theorem nl_263 : (263 : Int32) = nI 263 := rfl
theorem nl_264 : (264 : Int32) = nI 264 := rfl
theorem nl_265 : (265 : Int32) = nI 265 := rfl
theorem nl_266 : (266 : Int32) = nI 266 := rfl
theorem nl_267 : (267 : Int32) = nI 267 := rfl
theorem nl_268 : (268 : Int32) = nI 268 := rfl
theorem nl_269 : (269 : Int32) = nI 269 := rfl
theorem nl_270 : (270 : Int32) = nI 270 := rfl
theorem nl_271 : (271 : Int32) = nI 271 := rfl
theorem nl_272 : (272 : Int32) = nI 272 := rfl
theorem nl_273 : (273 : Int32) = nI 273 := rfl
theorem nl_274 : (274 : Int32) = nI 274 := rfl
theorem nl_275 : (275 : Int32) = nI 275 := rfl
theorem nl_276 : (276 : Int32) = nI 276 := rfl
theorem nl_277 : (277 : Int32) = nI 277 := rfl
theorem nl_278 : (278 : Int32) = nI 278 := rfl
theorem nl_279 : (279 : Int32) = nI 279 := rfl
theorem nl_280 : (280 : Int32) = nI 280 := rfl
theorem nl_281 : (281 : Int32) = nI 281 := rfl
theorem nl_282 : (282 : Int32) = nI 282 := rfl
theorem nl_283 : (283 : Int32) = nI 283 := rfl
theorem nl_284 : (284 : Int32) = nI 284 := rfl
theorem nl_285 : (285 : Int32) = nI 285 := rfl
def rf_tab : List (Nat × Nat × Nat) := [(3, 22, 40), (5, 21, 4), (6, 22, 30), (7, 22, 31), (8, 21, 8), (9, 21, 8), (10, 21, 8), (11, 21, 32), (14, 21, 320), (15, 21, 160), (17, 21, 16), (18, 21, 16), (19, 21, 16), (20, 21, 16), (21, 21, 3), (22, 21, 96), (23, 21, 48), (24, 21, 3), (25, 21, 3), (26, 21, 3), (27, 23, 3), (28, 23, 3), (29, 21, 3), (31, 21, 315)]
def rf_ok (K : ex_K) (F : ex_F) (m : Nat) (ad : Nat → Nat) : Prop := (K m).1 = 12 ∧ (∀ i j, ad i = ad j → i = j) ∧ (∀ j, ad j ≠ m) ∧ ∀ q, q ∈ rf_tab → F (804 + q.1) m 0 = some (ad q.1) ∧ K (ad q.1) = q.2
theorem rf_draft {K : ex_K} {F : ex_F} {m : Nat} {ad : Nat → Nat} (h : rf_ok K F m ad) : F 807 m 0 = some (ad 3) := (h.2.2.2 (3, 22, 40) (by decide)).1
theorem rk_draft {K : ex_K} {F : ex_F} {m : Nat} {ad : Nat → Nat} (h : rf_ok K F m ad) : (K (ad 3)).1 = 22 := by rw [(h.2.2.2 (3, 22, 40) (by decide)).2]
theorem rn_draft {K : ex_K} {F : ex_F} {m : Nat} {ad : Nat → Nat} (h : rf_ok K F m ad) : (K (ad 3)).2 = 40 := by rw [(h.2.2.2 (3, 22, 40) (by decide)).2]
theorem rf_read {K : ex_K} {F : ex_F} {m : Nat} {ad : Nat → Nat} (h : rf_ok K F m ad) : F 809 m 0 = some (ad 5) := (h.2.2.2 (5, 21, 4) (by decide)).1
theorem rk_read {K : ex_K} {F : ex_F} {m : Nat} {ad : Nat → Nat} (h : rf_ok K F m ad) : (K (ad 5)).1 = 21 := by rw [(h.2.2.2 (5, 21, 4) (by decide)).2]
theorem rn_read {K : ex_K} {F : ex_F} {m : Nat} {ad : Nat → Nat} (h : rf_ok K F m ad) : (K (ad 5)).2 = 4 := by rw [(h.2.2.2 (5, 21, 4) (by decide)).2]
theorem rf_names {K : ex_K} {F : ex_F} {m : Nat} {ad : Nat → Nat} (h : rf_ok K F m ad) : F 810 m 0 = some (ad 6) := (h.2.2.2 (6, 22, 30) (by decide)).1
theorem rk_names {K : ex_K} {F : ex_F} {m : Nat} {ad : Nat → Nat} (h : rf_ok K F m ad) : (K (ad 6)).1 = 22 := by rw [(h.2.2.2 (6, 22, 30) (by decide)).2]
theorem rn_names {K : ex_K} {F : ex_F} {m : Nat} {ad : Nat → Nat} (h : rf_ok K F m ad) : (K (ad 6)).2 = 30 := by rw [(h.2.2.2 (6, 22, 30) (by decide)).2]
theorem rf_others {K : ex_K} {F : ex_F} {m : Nat} {ad : Nat → Nat} (h : rf_ok K F m ad) : F 811 m 0 = some (ad 7) := (h.2.2.2 (7, 22, 31) (by decide)).1
theorem rk_others {K : ex_K} {F : ex_F} {m : Nat} {ad : Nat → Nat} (h : rf_ok K F m ad) : (K (ad 7)).1 = 22 := by rw [(h.2.2.2 (7, 22, 31) (by decide)).2]
theorem rn_others {K : ex_K} {F : ex_F} {m : Nat} {ad : Nat → Nat} (h : rf_ok K F m ad) : (K (ad 7)).2 = 31 := by rw [(h.2.2.2 (7, 22, 31) (by decide)).2]
theorem rf_version {K : ex_K} {F : ex_F} {m : Nat} {ad : Nat → Nat} (h : rf_ok K F m ad) : F 812 m 0 = some (ad 8) := (h.2.2.2 (8, 21, 8) (by decide)).1
theorem rk_version {K : ex_K} {F : ex_F} {m : Nat} {ad : Nat → Nat} (h : rf_ok K F m ad) : (K (ad 8)).1 = 21 := by rw [(h.2.2.2 (8, 21, 8) (by decide)).2]
theorem rn_version {K : ex_K} {F : ex_F} {m : Nat} {ad : Nat → Nat} (h : rf_ok K F m ad) : (K (ad 8)).2 = 8 := by rw [(h.2.2.2 (8, 21, 8) (by decide)).2]
theorem rf_big {K : ex_K} {F : ex_F} {m : Nat} {ad : Nat → Nat} (h : rf_ok K F m ad) : F 813 m 0 = some (ad 9) := (h.2.2.2 (9, 21, 8) (by decide)).1
theorem rk_big {K : ex_K} {F : ex_F} {m : Nat} {ad : Nat → Nat} (h : rf_ok K F m ad) : (K (ad 9)).1 = 21 := by rw [(h.2.2.2 (9, 21, 8) (by decide)).2]
theorem rn_big {K : ex_K} {F : ex_F} {m : Nat} {ad : Nat → Nat} (h : rf_ok K F m ad) : (K (ad 9)).2 = 8 := by rw [(h.2.2.2 (9, 21, 8) (by decide)).2]
theorem rf_vary {K : ex_K} {F : ex_F} {m : Nat} {ad : Nat → Nat} (h : rf_ok K F m ad) : F 814 m 0 = some (ad 10) := (h.2.2.2 (10, 21, 8) (by decide)).1
theorem rk_vary {K : ex_K} {F : ex_F} {m : Nat} {ad : Nat → Nat} (h : rf_ok K F m ad) : (K (ad 10)).1 = 21 := by rw [(h.2.2.2 (10, 21, 8) (by decide)).2]
theorem rn_vary {K : ex_K} {F : ex_F} {m : Nat} {ad : Nat → Nat} (h : rf_ok K F m ad) : (K (ad 10)).2 = 8 := by rw [(h.2.2.2 (10, 21, 8) (by decide)).2]
theorem rf_control {K : ex_K} {F : ex_F} {m : Nat} {ad : Nat → Nat} (h : rf_ok K F m ad) : F 815 m 0 = some (ad 11) := (h.2.2.2 (11, 21, 32) (by decide)).1
theorem rk_control {K : ex_K} {F : ex_F} {m : Nat} {ad : Nat → Nat} (h : rf_ok K F m ad) : (K (ad 11)).1 = 21 := by rw [(h.2.2.2 (11, 21, 32) (by decide)).2]
theorem rn_control {K : ex_K} {F : ex_F} {m : Nat} {ad : Nat → Nat} (h : rf_ok K F m ad) : (K (ad 11)).2 = 32 := by rw [(h.2.2.2 (11, 21, 32) (by decide)).2]
theorem rf_entry {K : ex_K} {F : ex_F} {m : Nat} {ad : Nat → Nat} (h : rf_ok K F m ad) : F 818 m 0 = some (ad 14) := (h.2.2.2 (14, 21, 320) (by decide)).1
theorem rk_entry {K : ex_K} {F : ex_F} {m : Nat} {ad : Nat → Nat} (h : rf_ok K F m ad) : (K (ad 14)).1 = 21 := by rw [(h.2.2.2 (14, 21, 320) (by decide)).2]
theorem rn_entry {K : ex_K} {F : ex_F} {m : Nat} {ad : Nat → Nat} (h : rf_ok K F m ad) : (K (ad 14)).2 = 320 := by rw [(h.2.2.2 (14, 21, 320) (by decide)).2]
theorem rf_rule {K : ex_K} {F : ex_F} {m : Nat} {ad : Nat → Nat} (h : rf_ok K F m ad) : F 819 m 0 = some (ad 15) := (h.2.2.2 (15, 21, 160) (by decide)).1
theorem rk_rule {K : ex_K} {F : ex_F} {m : Nat} {ad : Nat → Nat} (h : rf_ok K F m ad) : (K (ad 15)).1 = 21 := by rw [(h.2.2.2 (15, 21, 160) (by decide)).2]
theorem rn_rule {K : ex_K} {F : ex_F} {m : Nat} {ad : Nat → Nat} (h : rf_ok K F m ad) : (K (ad 15)).2 = 160 := by rw [(h.2.2.2 (15, 21, 160) (by decide)).2]
theorem rf_status {K : ex_K} {F : ex_F} {m : Nat} {ad : Nat → Nat} (h : rf_ok K F m ad) : F 821 m 0 = some (ad 17) := (h.2.2.2 (17, 21, 16) (by decide)).1
theorem rk_status {K : ex_K} {F : ex_F} {m : Nat} {ad : Nat → Nat} (h : rf_ok K F m ad) : (K (ad 17)).1 = 21 := by rw [(h.2.2.2 (17, 21, 16) (by decide)).2]
theorem rn_status {K : ex_K} {F : ex_F} {m : Nat} {ad : Nat → Nat} (h : rf_ok K F m ad) : (K (ad 17)).2 = 16 := by rw [(h.2.2.2 (17, 21, 16) (by decide)).2]
theorem rf_tag {K : ex_K} {F : ex_F} {m : Nat} {ad : Nat → Nat} (h : rf_ok K F m ad) : F 822 m 0 = some (ad 18) := (h.2.2.2 (18, 21, 16) (by decide)).1
theorem rk_tag {K : ex_K} {F : ex_F} {m : Nat} {ad : Nat → Nat} (h : rf_ok K F m ad) : (K (ad 18)).1 = 21 := by rw [(h.2.2.2 (18, 21, 16) (by decide)).2]
theorem rn_tag {K : ex_K} {F : ex_F} {m : Nat} {ad : Nat → Nat} (h : rf_ok K F m ad) : (K (ad 18)).2 = 16 := by rw [(h.2.2.2 (18, 21, 16) (by decide)).2]
theorem rf_age {K : ex_K} {F : ex_F} {m : Nat} {ad : Nat → Nat} (h : rf_ok K F m ad) : F 823 m 0 = some (ad 19) := (h.2.2.2 (19, 21, 16) (by decide)).1
theorem rk_age {K : ex_K} {F : ex_F} {m : Nat} {ad : Nat → Nat} (h : rf_ok K F m ad) : (K (ad 19)).1 = 21 := by rw [(h.2.2.2 (19, 21, 16) (by decide)).2]
theorem rn_age {K : ex_K} {F : ex_F} {m : Nat} {ad : Nat → Nat} (h : rf_ok K F m ad) : (K (ad 19)).2 = 16 := by rw [(h.2.2.2 (19, 21, 16) (by decide)).2]
theorem rf_way {K : ex_K} {F : ex_F} {m : Nat} {ad : Nat → Nat} (h : rf_ok K F m ad) : F 824 m 0 = some (ad 20) := (h.2.2.2 (20, 21, 16) (by decide)).1
theorem rk_way {K : ex_K} {F : ex_F} {m : Nat} {ad : Nat → Nat} (h : rf_ok K F m ad) : (K (ad 20)).1 = 21 := by rw [(h.2.2.2 (20, 21, 16) (by decide)).2]
theorem rn_way {K : ex_K} {F : ex_F} {m : Nat} {ad : Nat → Nat} (h : rf_ok K F m ad) : (K (ad 20)).2 = 16 := by rw [(h.2.2.2 (20, 21, 16) (by decide)).2]
theorem rf_count {K : ex_K} {F : ex_F} {m : Nat} {ad : Nat → Nat} (h : rf_ok K F m ad) : F 825 m 0 = some (ad 21) := (h.2.2.2 (21, 21, 3) (by decide)).1
theorem rk_count {K : ex_K} {F : ex_F} {m : Nat} {ad : Nat → Nat} (h : rf_ok K F m ad) : (K (ad 21)).1 = 21 := by rw [(h.2.2.2 (21, 21, 3) (by decide)).2]
theorem rn_count {K : ex_K} {F : ex_F} {m : Nat} {ad : Nat → Nat} (h : rf_ok K F m ad) : (K (ad 21)).2 = 3 := by rw [(h.2.2.2 (21, 21, 3) (by decide)).2]
theorem rf_wait {K : ex_K} {F : ex_F} {m : Nat} {ad : Nat → Nat} (h : rf_ok K F m ad) : F 826 m 0 = some (ad 22) := (h.2.2.2 (22, 21, 96) (by decide)).1
theorem rk_wait {K : ex_K} {F : ex_F} {m : Nat} {ad : Nat → Nat} (h : rf_ok K F m ad) : (K (ad 22)).1 = 21 := by rw [(h.2.2.2 (22, 21, 96) (by decide)).2]
theorem rn_wait {K : ex_K} {F : ex_F} {m : Nat} {ad : Nat → Nat} (h : rf_ok K F m ad) : (K (ad 22)).2 = 96 := by rw [(h.2.2.2 (22, 21, 96) (by decide)).2]
theorem rf_wish {K : ex_K} {F : ex_F} {m : Nat} {ad : Nat → Nat} (h : rf_ok K F m ad) : F 827 m 0 = some (ad 23) := (h.2.2.2 (23, 21, 48) (by decide)).1
theorem rk_wish {K : ex_K} {F : ex_F} {m : Nat} {ad : Nat → Nat} (h : rf_ok K F m ad) : (K (ad 23)).1 = 21 := by rw [(h.2.2.2 (23, 21, 48) (by decide)).2]
theorem rn_wish {K : ex_K} {F : ex_F} {m : Nat} {ad : Nat → Nat} (h : rf_ok K F m ad) : (K (ad 23)).2 = 48 := by rw [(h.2.2.2 (23, 21, 48) (by decide)).2]
theorem rf_given {K : ex_K} {F : ex_F} {m : Nat} {ad : Nat → Nat} (h : rf_ok K F m ad) : F 828 m 0 = some (ad 24) := (h.2.2.2 (24, 21, 3) (by decide)).1
theorem rk_given {K : ex_K} {F : ex_F} {m : Nat} {ad : Nat → Nat} (h : rf_ok K F m ad) : (K (ad 24)).1 = 21 := by rw [(h.2.2.2 (24, 21, 3) (by decide)).2]
theorem rn_given {K : ex_K} {F : ex_F} {m : Nat} {ad : Nat → Nat} (h : rf_ok K F m ad) : (K (ad 24)).2 = 3 := by rw [(h.2.2.2 (24, 21, 3) (by decide)).2]
theorem rf_since {K : ex_K} {F : ex_F} {m : Nat} {ad : Nat → Nat} (h : rf_ok K F m ad) : F 829 m 0 = some (ad 25) := (h.2.2.2 (25, 21, 3) (by decide)).1
theorem rk_since {K : ex_K} {F : ex_F} {m : Nat} {ad : Nat → Nat} (h : rf_ok K F m ad) : (K (ad 25)).1 = 21 := by rw [(h.2.2.2 (25, 21, 3) (by decide)).2]
theorem rn_since {K : ex_K} {F : ex_F} {m : Nat} {ad : Nat → Nat} (h : rf_ok K F m ad) : (K (ad 25)).2 = 3 := by rw [(h.2.2.2 (25, 21, 3) (by decide)).2]
theorem rf_lost {K : ex_K} {F : ex_F} {m : Nat} {ad : Nat → Nat} (h : rf_ok K F m ad) : F 830 m 0 = some (ad 26) := (h.2.2.2 (26, 21, 3) (by decide)).1
theorem rk_lost {K : ex_K} {F : ex_F} {m : Nat} {ad : Nat → Nat} (h : rf_ok K F m ad) : (K (ad 26)).1 = 21 := by rw [(h.2.2.2 (26, 21, 3) (by decide)).2]
theorem rn_lost {K : ex_K} {F : ex_F} {m : Nat} {ad : Nat → Nat} (h : rf_ok K F m ad) : (K (ad 26)).2 = 3 := by rw [(h.2.2.2 (26, 21, 3) (by decide)).2]
theorem rf_down {K : ex_K} {F : ex_F} {m : Nat} {ad : Nat → Nat} (h : rf_ok K F m ad) : F 831 m 0 = some (ad 27) := (h.2.2.2 (27, 23, 3) (by decide)).1
theorem rk_down {K : ex_K} {F : ex_F} {m : Nat} {ad : Nat → Nat} (h : rf_ok K F m ad) : (K (ad 27)).1 = 23 := by rw [(h.2.2.2 (27, 23, 3) (by decide)).2]
theorem rn_down {K : ex_K} {F : ex_F} {m : Nat} {ad : Nat → Nat} (h : rf_ok K F m ad) : (K (ad 27)).2 = 3 := by rw [(h.2.2.2 (27, 23, 3) (by decide)).2]
theorem rf_stopped {K : ex_K} {F : ex_F} {m : Nat} {ad : Nat → Nat} (h : rf_ok K F m ad) : F 832 m 0 = some (ad 28) := (h.2.2.2 (28, 23, 3) (by decide)).1
theorem rk_stopped {K : ex_K} {F : ex_F} {m : Nat} {ad : Nat → Nat} (h : rf_ok K F m ad) : (K (ad 28)).1 = 23 := by rw [(h.2.2.2 (28, 23, 3) (by decide)).2]
theorem rn_stopped {K : ex_K} {F : ex_F} {m : Nat} {ad : Nat → Nat} (h : rf_ok K F m ad) : (K (ad 28)).2 = 3 := by rw [(h.2.2.2 (28, 23, 3) (by decide)).2]
theorem rf_taken {K : ex_K} {F : ex_F} {m : Nat} {ad : Nat → Nat} (h : rf_ok K F m ad) : F 833 m 0 = some (ad 29) := (h.2.2.2 (29, 21, 3) (by decide)).1
theorem rk_taken {K : ex_K} {F : ex_F} {m : Nat} {ad : Nat → Nat} (h : rf_ok K F m ad) : (K (ad 29)).1 = 21 := by rw [(h.2.2.2 (29, 21, 3) (by decide)).2]
theorem rn_taken {K : ex_K} {F : ex_F} {m : Nat} {ad : Nat → Nat} (h : rf_ok K F m ad) : (K (ad 29)).2 = 3 := by rw [(h.2.2.2 (29, 21, 3) (by decide)).2]
theorem rf_row {K : ex_K} {F : ex_F} {m : Nat} {ad : Nat → Nat} (h : rf_ok K F m ad) : F 835 m 0 = some (ad 31) := (h.2.2.2 (31, 21, 315) (by decide)).1
theorem rk_row {K : ex_K} {F : ex_F} {m : Nat} {ad : Nat → Nat} (h : rf_ok K F m ad) : (K (ad 31)).1 = 21 := by rw [(h.2.2.2 (31, 21, 315) (by decide)).2]
theorem rn_row {K : ex_K} {F : ex_F} {m : Nat} {ad : Nat → Nat} (h : rf_ok K F m ad) : (K (ad 31)).2 = 315 := by rw [(h.2.2.2 (31, 21, 315) (by decide)).2]
theorem rf_ne {K : ex_K} {F : ex_F} {m : Nat} {ad : Nat → Nat} (h : rf_ok K F m ad) {i j : Nat} (hij : i ≠ j) : ad i ≠ ad j := fun e => hij (h.2.1 i j e)
section EXI
variable {Γ : ex_G} {d : Nat} {M : ex_M} {pc : Nat} {lv : List (Option ex_V)} {st : List ex_V} {K : ex_K} {I : ex_I} {F : ex_F} {b : Nat} {Q : Option ex_V → ex_K → ex_I → ex_F → Prop}
theorem ex_ixl {g : Nat → Int32} {i : Int32} {q : Nat} (hq : i = nI q) (h : q < 2 ^ 31) (k : ex_E Γ d M pc lv (.inl (g q) :: st) K I F b Q) : ex_E Γ d M pc lv (.inl (g i.toNatClampNeg) :: st) K I F b Q := by
  rw [n_cl hq h]; exact k
theorem ex_ixs {f a : Nat} {x i : Int32} {q : Nat} (hq : i = nI q) (h : q < 2 ^ 31) (k : ex_E Γ d M pc lv st K (ex_ui I f a q x) F b Q) : ex_E Γ d M pc lv st K (ex_ui I f a i.toNatClampNeg x) F b Q := by
  rw [n_cl hq h]; exact k
end EXI
