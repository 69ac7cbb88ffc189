def wb_M_tick_14 (h0 : Nat) (K : Int32 → ST → Prop) : Nat → ST → Int64 → Int32 → Int32 → Prop
  | 0, _, _, _, _ => False
  | n + 1, σ, v1, v3, v4 =>
  st_tg σ h0 = some 1 ∧ ((((((st_I σ 40 h0)) < v4) → K v3 σ) ∧
  ((¬ ((st_I σ 40 h0)) < v4) → ∃ a_4 : Nat, (st_R σ 41 h0) = some a_4 ∧ st_tg σ a_4 = some 301 ∧ (vp_in v4 (st_ln σ a_4) ∧ ((((((st_eI σ a_4 (Int32.toNatClampNeg v4))) = 0) → ∃ a_9 : Nat, (st_R σ 43 h0) = some a_9 ∧ st_tg σ a_9 = some 302 ∧ (vp_in v4 (st_ln σ a_9) ∧ ((((0 ≤ ((lg_cmp ((st_eJ σ a_9 (Int32.toNatClampNeg v4))) v1))) → ((((0 : Int32) = 0) → ∀ x_15 : Int32, x_15 = v4 + 1 → (wb_M_tick_14 h0 K n σ v1 v3 x_15)) ∧
  ((¬ (0 : Int32) = 0) → ∃ a_17 : Nat, (st_R σ 46 h0) = some a_17 ∧ st_tg σ a_17 = some 301 ∧ (vp_in v4 (st_ln σ a_17) ∧ (∃ a_21 : Nat, (st_R σ 52 h0) = some a_21 ∧ st_tg σ a_21 = some 302 ∧ (vp_in ((st_eI σ a_17 (Int32.toNatClampNeg v4))) (st_ln σ a_21) ∧ (∃ a_25 : Nat, (st_R σ 42 h0) = some a_25 ∧ st_tg σ a_25 = some 302 ∧ (vp_in v4 (st_ln σ a_25) ∧ (vp_in ((st_eI σ a_17 (Int32.toNatClampNeg v4))) (st_ln σ a_21) ∧ (∀ σ_30 : ST, σ_30 = st_uJ σ a_21 (Int32.toNatClampNeg ((st_eI σ a_17 (Int32.toNatClampNeg v4)))) ((((st_eJ σ a_21 (Int32.toNatClampNeg ((st_eI σ a_17 (Int32.toNatClampNeg v4)))))) - ((st_eJ σ a_25 (Int32.toNatClampNeg v4))))) → (∃ a_38 : Nat, (st_R σ_30 71 h0) = some a_38 ∧ st_tg σ_30 a_38 = some 302 ∧ (vp_in 4 (st_ln σ_30 a_38) ∧ (∃ a_42 : Nat, (st_R σ_30 42 h0) = some a_42 ∧ st_tg σ_30 a_42 = some 302 ∧ (vp_in v4 (st_ln σ_30 a_42) ∧ (vp_in 4 (st_ln σ_30 a_38) ∧ (∀ σ_47 : ST, σ_47 = st_uJ σ_30 a_38 (Int32.toNatClampNeg 4) ((((st_eJ σ_30 a_38 (Int32.toNatClampNeg 4))) + ((st_eJ σ_30 a_42 (Int32.toNatClampNeg v4))))) → (∃ a_57 : Nat, (st_R σ_47 41 h0) = some a_57 ∧ st_tg σ_47 a_57 = some 301 ∧ (vp_in v4 (st_ln σ_47 a_57) ∧ (∀ σ_61 : ST, σ_61 = st_uI σ_47 a_57 (Int32.toNatClampNeg v4) 3 → (∃ a_72 : Nat, (st_R σ_61 48 h0) = some a_72 ∧ st_tg σ_61 a_72 = some 301 ∧ (vp_in v4 (st_ln σ_61 a_72) ∧ (∀ σ_76 : ST, σ_76 = st_uI σ_61 a_72 (Int32.toNatClampNeg v4) ((-1)) → (∀ x_88 : Int32, x_88 = v3 + 1 → (∀ x_90 : Int32, x_90 = v4 + 1 → (wb_M_tick_14 h0 K n σ_76 v1 x_88 x_90))))))))))))))))))))))))) ∧
  ((¬ 0 ≤ ((lg_cmp ((st_eJ σ a_9 (Int32.toNatClampNeg v4))) v1))) → ∃ a_92 : Nat, (st_R σ 46 h0) = some a_92 ∧ st_tg σ a_92 = some 301 ∧ (vp_in v4 (st_ln σ a_92) ∧ (∃ a_96 : Nat, (st_R σ 52 h0) = some a_96 ∧ st_tg σ a_96 = some 302 ∧ (vp_in ((st_eI σ a_92 (Int32.toNatClampNeg v4))) (st_ln σ a_96) ∧ (∃ a_100 : Nat, (st_R σ 42 h0) = some a_100 ∧ st_tg σ a_100 = some 302 ∧ (vp_in v4 (st_ln σ a_100) ∧ ((((((lg_cmp ((st_eJ σ a_96 (Int32.toNatClampNeg ((st_eI σ a_92 (Int32.toNatClampNeg v4)))))) ((st_eJ σ a_100 (Int32.toNatClampNeg v4))))) < 0) → ((((0 : Int32) = 0) → ∀ x_106 : Int32, x_106 = v4 + 1 → (wb_M_tick_14 h0 K n σ v1 v3 x_106)) ∧
  ((¬ (0 : Int32) = 0) → vp_in v4 (st_ln σ a_92) ∧ (vp_in ((st_eI σ a_92 (Int32.toNatClampNeg v4))) (st_ln σ a_96) ∧ (vp_in v4 (st_ln σ a_100) ∧ (vp_in ((st_eI σ a_92 (Int32.toNatClampNeg v4))) (st_ln σ a_96) ∧ (∀ σ_112 : ST, σ_112 = st_uJ σ a_96 (Int32.toNatClampNeg ((st_eI σ a_92 (Int32.toNatClampNeg v4)))) ((((st_eJ σ a_96 (Int32.toNatClampNeg ((st_eI σ a_92 (Int32.toNatClampNeg v4)))))) - ((st_eJ σ a_100 (Int32.toNatClampNeg v4))))) → (∃ a_120 : Nat, (st_R σ_112 71 h0) = some a_120 ∧ st_tg σ_112 a_120 = some 302 ∧ (vp_in 4 (st_ln σ_112 a_120) ∧ (∃ a_124 : Nat, (st_R σ_112 42 h0) = some a_124 ∧ st_tg σ_112 a_124 = some 302 ∧ (vp_in v4 (st_ln σ_112 a_124) ∧ (vp_in 4 (st_ln σ_112 a_120) ∧ (∀ σ_129 : ST, σ_129 = st_uJ σ_112 a_120 (Int32.toNatClampNeg 4) ((((st_eJ σ_112 a_120 (Int32.toNatClampNeg 4))) + ((st_eJ σ_112 a_124 (Int32.toNatClampNeg v4))))) → (∃ a_139 : Nat, (st_R σ_129 41 h0) = some a_139 ∧ st_tg σ_129 a_139 = some 301 ∧ (vp_in v4 (st_ln σ_129 a_139) ∧ (∀ σ_143 : ST, σ_143 = st_uI σ_129 a_139 (Int32.toNatClampNeg v4) 3 → (∃ a_154 : Nat, (st_R σ_143 48 h0) = some a_154 ∧ st_tg σ_143 a_154 = some 301 ∧ (vp_in v4 (st_ln σ_143 a_154) ∧ (∀ σ_158 : ST, σ_158 = st_uI σ_143 a_154 (Int32.toNatClampNeg v4) ((-1)) → (∀ x_170 : Int32, x_170 = v3 + 1 → (∀ x_172 : Int32, x_172 = v4 + 1 → (wb_M_tick_14 h0 K n σ_158 v1 x_170 x_172)))))))))))))))))))))) ∧
  ((¬ ((lg_cmp ((st_eJ σ a_96 (Int32.toNatClampNeg ((st_eI σ a_92 (Int32.toNatClampNeg v4)))))) ((st_eJ σ a_100 (Int32.toNatClampNeg v4))))) < 0) → ((((1 : Int32) = 0) → ∀ x_175 : Int32, x_175 = v4 + 1 → (wb_M_tick_14 h0 K n σ v1 v3 x_175)) ∧
  ((¬ (1 : Int32) = 0) → vp_in v4 (st_ln σ a_92) ∧ (vp_in ((st_eI σ a_92 (Int32.toNatClampNeg v4))) (st_ln σ a_96) ∧ (vp_in v4 (st_ln σ a_100) ∧ (vp_in ((st_eI σ a_92 (Int32.toNatClampNeg v4))) (st_ln σ a_96) ∧ (∀ σ_181 : ST, σ_181 = st_uJ σ a_96 (Int32.toNatClampNeg ((st_eI σ a_92 (Int32.toNatClampNeg v4)))) ((((st_eJ σ a_96 (Int32.toNatClampNeg ((st_eI σ a_92 (Int32.toNatClampNeg v4)))))) - ((st_eJ σ a_100 (Int32.toNatClampNeg v4))))) → (∃ a_189 : Nat, (st_R σ_181 71 h0) = some a_189 ∧ st_tg σ_181 a_189 = some 302 ∧ (vp_in 4 (st_ln σ_181 a_189) ∧ (∃ a_193 : Nat, (st_R σ_181 42 h0) = some a_193 ∧ st_tg σ_181 a_193 = some 302 ∧ (vp_in v4 (st_ln σ_181 a_193) ∧ (vp_in 4 (st_ln σ_181 a_189) ∧ (∀ σ_198 : ST, σ_198 = st_uJ σ_181 a_189 (Int32.toNatClampNeg 4) ((((st_eJ σ_181 a_189 (Int32.toNatClampNeg 4))) + ((st_eJ σ_181 a_193 (Int32.toNatClampNeg v4))))) → (∃ a_208 : Nat, (st_R σ_198 41 h0) = some a_208 ∧ st_tg σ_198 a_208 = some 301 ∧ (vp_in v4 (st_ln σ_198 a_208) ∧ (∀ σ_212 : ST, σ_212 = st_uI σ_198 a_208 (Int32.toNatClampNeg v4) 3 → (∃ a_223 : Nat, (st_R σ_212 48 h0) = some a_223 ∧ st_tg σ_212 a_223 = some 301 ∧ (vp_in v4 (st_ln σ_212 a_223) ∧ (∀ σ_227 : ST, σ_227 = st_uI σ_212 a_223 (Int32.toNatClampNeg v4) ((-1)) → (∀ x_239 : Int32, x_239 = v3 + 1 → (∀ x_241 : Int32, x_241 = v4 + 1 → (wb_M_tick_14 h0 K n σ_227 v1 x_239 x_241)))))))))))))))))))))))))))))))))) ∧
  ((¬ ((st_eI σ a_4 (Int32.toNatClampNeg v4))) = 0) → vp_in v4 (st_ln σ a_4) ∧ ((((¬ ((st_eI σ a_4 (Int32.toNatClampNeg v4))) = (2 : Int32)) → ((((0 : Int32) = 0) → ∀ x_246 : Int32, x_246 = v4 + 1 → (wb_M_tick_14 h0 K n σ v1 v3 x_246)) ∧
  ((¬ (0 : Int32) = 0) → ∃ a_248 : Nat, (st_R σ 46 h0) = some a_248 ∧ st_tg σ a_248 = some 301 ∧ (vp_in v4 (st_ln σ a_248) ∧ (∃ a_252 : Nat, (st_R σ 52 h0) = some a_252 ∧ st_tg σ a_252 = some 302 ∧ (vp_in ((st_eI σ a_248 (Int32.toNatClampNeg v4))) (st_ln σ a_252) ∧ (∃ a_256 : Nat, (st_R σ 42 h0) = some a_256 ∧ st_tg σ a_256 = some 302 ∧ (vp_in v4 (st_ln σ a_256) ∧ (vp_in ((st_eI σ a_248 (Int32.toNatClampNeg v4))) (st_ln σ a_252) ∧ (∀ σ_261 : ST, σ_261 = st_uJ σ a_252 (Int32.toNatClampNeg ((st_eI σ a_248 (Int32.toNatClampNeg v4)))) ((((st_eJ σ a_252 (Int32.toNatClampNeg ((st_eI σ a_248 (Int32.toNatClampNeg v4)))))) - ((st_eJ σ a_256 (Int32.toNatClampNeg v4))))) → (∃ a_268 : Nat, (st_R σ_261 71 h0) = some a_268 ∧ st_tg σ_261 a_268 = some 302 ∧ (vp_in 4 (st_ln σ_261 a_268) ∧ (∃ a_272 : Nat, (st_R σ_261 42 h0) = some a_272 ∧ st_tg σ_261 a_272 = some 302 ∧ (vp_in v4 (st_ln σ_261 a_272) ∧ (vp_in 4 (st_ln σ_261 a_268) ∧ (∀ σ_277 : ST, σ_277 = st_uJ σ_261 a_268 (Int32.toNatClampNeg 4) ((((st_eJ σ_261 a_268 (Int32.toNatClampNeg 4))) + ((st_eJ σ_261 a_272 (Int32.toNatClampNeg v4))))) → (∃ a_286 : Nat, (st_R σ_277 41 h0) = some a_286 ∧ st_tg σ_277 a_286 = some 301 ∧ (vp_in v4 (st_ln σ_277 a_286) ∧ (∀ σ_290 : ST, σ_290 = st_uI σ_277 a_286 (Int32.toNatClampNeg v4) 3 → (∃ a_300 : Nat, (st_R σ_290 48 h0) = some a_300 ∧ st_tg σ_290 a_300 = some 301 ∧ (vp_in v4 (st_ln σ_290 a_300) ∧ (∀ σ_304 : ST, σ_304 = st_uI σ_290 a_300 (Int32.toNatClampNeg v4) ((-1)) → (∀ x_315 : Int32, x_315 = v3 + 1 → (∀ x_317 : Int32, x_317 = v4 + 1 → (wb_M_tick_14 h0 K n σ_304 v1 x_315 x_317))))))))))))))))))))))))) ∧
  ((((st_eI σ a_4 (Int32.toNatClampNeg v4))) = (2 : Int32)) → ∃ a_319 : Nat, (st_R σ 43 h0) = some a_319 ∧ st_tg σ a_319 = some 302 ∧ (vp_in v4 (st_ln σ a_319) ∧ ((((0 ≤ ((lg_cmp ((st_eJ σ a_319 (Int32.toNatClampNeg v4))) v1))) → ((((0 : Int32) = 0) → ∀ x_325 : Int32, x_325 = v4 + 1 → (wb_M_tick_14 h0 K n σ v1 v3 x_325)) ∧
  ((¬ (0 : Int32) = 0) → ∃ a_327 : Nat, (st_R σ 46 h0) = some a_327 ∧ st_tg σ a_327 = some 301 ∧ (vp_in v4 (st_ln σ a_327) ∧ (∃ a_331 : Nat, (st_R σ 52 h0) = some a_331 ∧ st_tg σ a_331 = some 302 ∧ (vp_in ((st_eI σ a_327 (Int32.toNatClampNeg v4))) (st_ln σ a_331) ∧ (∃ a_335 : Nat, (st_R σ 42 h0) = some a_335 ∧ st_tg σ a_335 = some 302 ∧ (vp_in v4 (st_ln σ a_335) ∧ (vp_in ((st_eI σ a_327 (Int32.toNatClampNeg v4))) (st_ln σ a_331) ∧ (∀ σ_340 : ST, σ_340 = st_uJ σ a_331 (Int32.toNatClampNeg ((st_eI σ a_327 (Int32.toNatClampNeg v4)))) ((((st_eJ σ a_331 (Int32.toNatClampNeg ((st_eI σ a_327 (Int32.toNatClampNeg v4)))))) - ((st_eJ σ a_335 (Int32.toNatClampNeg v4))))) → (∃ a_348 : Nat, (st_R σ_340 71 h0) = some a_348 ∧ st_tg σ_340 a_348 = some 302 ∧ (vp_in 4 (st_ln σ_340 a_348) ∧ (∃ a_352 : Nat, (st_R σ_340 42 h0) = some a_352 ∧ st_tg σ_340 a_352 = some 302 ∧ (vp_in v4 (st_ln σ_340 a_352) ∧ (vp_in 4 (st_ln σ_340 a_348) ∧ (∀ σ_357 : ST, σ_357 = st_uJ σ_340 a_348 (Int32.toNatClampNeg 4) ((((st_eJ σ_340 a_348 (Int32.toNatClampNeg 4))) + ((st_eJ σ_340 a_352 (Int32.toNatClampNeg v4))))) → (∃ a_367 : Nat, (st_R σ_357 41 h0) = some a_367 ∧ st_tg σ_357 a_367 = some 301 ∧ (vp_in v4 (st_ln σ_357 a_367) ∧ (∀ σ_371 : ST, σ_371 = st_uI σ_357 a_367 (Int32.toNatClampNeg v4) 3 → (∃ a_382 : Nat, (st_R σ_371 48 h0) = some a_382 ∧ st_tg σ_371 a_382 = some 301 ∧ (vp_in v4 (st_ln σ_371 a_382) ∧ (∀ σ_386 : ST, σ_386 = st_uI σ_371 a_382 (Int32.toNatClampNeg v4) ((-1)) → (∀ x_398 : Int32, x_398 = v3 + 1 → (∀ x_400 : Int32, x_400 = v4 + 1 → (wb_M_tick_14 h0 K n σ_386 v1 x_398 x_400))))))))))))))))))))))))) ∧
  ((¬ 0 ≤ ((lg_cmp ((st_eJ σ a_319 (Int32.toNatClampNeg v4))) v1))) → ∃ a_402 : Nat, (st_R σ 46 h0) = some a_402 ∧ st_tg σ a_402 = some 301 ∧ (vp_in v4 (st_ln σ a_402) ∧ (∃ a_406 : Nat, (st_R σ 52 h0) = some a_406 ∧ st_tg σ a_406 = some 302 ∧ (vp_in ((st_eI σ a_402 (Int32.toNatClampNeg v4))) (st_ln σ a_406) ∧ (∃ a_410 : Nat, (st_R σ 42 h0) = some a_410 ∧ st_tg σ a_410 = some 302 ∧ (vp_in v4 (st_ln σ a_410) ∧ ((((((lg_cmp ((st_eJ σ a_406 (Int32.toNatClampNeg ((st_eI σ a_402 (Int32.toNatClampNeg v4)))))) ((st_eJ σ a_410 (Int32.toNatClampNeg v4))))) < 0) → ((((0 : Int32) = 0) → ∀ x_416 : Int32, x_416 = v4 + 1 → (wb_M_tick_14 h0 K n σ v1 v3 x_416)) ∧
  ((¬ (0 : Int32) = 0) → vp_in v4 (st_ln σ a_402) ∧ (vp_in ((st_eI σ a_402 (Int32.toNatClampNeg v4))) (st_ln σ a_406) ∧ (vp_in v4 (st_ln σ a_410) ∧ (vp_in ((st_eI σ a_402 (Int32.toNatClampNeg v4))) (st_ln σ a_406) ∧ (∀ σ_422 : ST, σ_422 = st_uJ σ a_406 (Int32.toNatClampNeg ((st_eI σ a_402 (Int32.toNatClampNeg v4)))) ((((st_eJ σ a_406 (Int32.toNatClampNeg ((st_eI σ a_402 (Int32.toNatClampNeg v4)))))) - ((st_eJ σ a_410 (Int32.toNatClampNeg v4))))) → (∃ a_430 : Nat, (st_R σ_422 71 h0) = some a_430 ∧ st_tg σ_422 a_430 = some 302 ∧ (vp_in 4 (st_ln σ_422 a_430) ∧ (∃ a_434 : Nat, (st_R σ_422 42 h0) = some a_434 ∧ st_tg σ_422 a_434 = some 302 ∧ (vp_in v4 (st_ln σ_422 a_434) ∧ (vp_in 4 (st_ln σ_422 a_430) ∧ (∀ σ_439 : ST, σ_439 = st_uJ σ_422 a_430 (Int32.toNatClampNeg 4) ((((st_eJ σ_422 a_430 (Int32.toNatClampNeg 4))) + ((st_eJ σ_422 a_434 (Int32.toNatClampNeg v4))))) → (∃ a_449 : Nat, (st_R σ_439 41 h0) = some a_449 ∧ st_tg σ_439 a_449 = some 301 ∧ (vp_in v4 (st_ln σ_439 a_449) ∧ (∀ σ_453 : ST, σ_453 = st_uI σ_439 a_449 (Int32.toNatClampNeg v4) 3 → (∃ a_464 : Nat, (st_R σ_453 48 h0) = some a_464 ∧ st_tg σ_453 a_464 = some 301 ∧ (vp_in v4 (st_ln σ_453 a_464) ∧ (∀ σ_468 : ST, σ_468 = st_uI σ_453 a_464 (Int32.toNatClampNeg v4) ((-1)) → (∀ x_480 : Int32, x_480 = v3 + 1 → (∀ x_482 : Int32, x_482 = v4 + 1 → (wb_M_tick_14 h0 K n σ_468 v1 x_480 x_482)))))))))))))))))))))) ∧
  ((¬ ((lg_cmp ((st_eJ σ a_406 (Int32.toNatClampNeg ((st_eI σ a_402 (Int32.toNatClampNeg v4)))))) ((st_eJ σ a_410 (Int32.toNatClampNeg v4))))) < 0) → ((((1 : Int32) = 0) → ∀ x_485 : Int32, x_485 = v4 + 1 → (wb_M_tick_14 h0 K n σ v1 v3 x_485)) ∧
  ((¬ (1 : Int32) = 0) → vp_in v4 (st_ln σ a_402) ∧ (vp_in ((st_eI σ a_402 (Int32.toNatClampNeg v4))) (st_ln σ a_406) ∧ (vp_in v4 (st_ln σ a_410) ∧ (vp_in ((st_eI σ a_402 (Int32.toNatClampNeg v4))) (st_ln σ a_406) ∧ (∀ σ_491 : ST, σ_491 = st_uJ σ a_406 (Int32.toNatClampNeg ((st_eI σ a_402 (Int32.toNatClampNeg v4)))) ((((st_eJ σ a_406 (Int32.toNatClampNeg ((st_eI σ a_402 (Int32.toNatClampNeg v4)))))) - ((st_eJ σ a_410 (Int32.toNatClampNeg v4))))) → (∃ a_499 : Nat, (st_R σ_491 71 h0) = some a_499 ∧ st_tg σ_491 a_499 = some 302 ∧ (vp_in 4 (st_ln σ_491 a_499) ∧ (∃ a_503 : Nat, (st_R σ_491 42 h0) = some a_503 ∧ st_tg σ_491 a_503 = some 302 ∧ (vp_in v4 (st_ln σ_491 a_503) ∧ (vp_in 4 (st_ln σ_491 a_499) ∧ (∀ σ_508 : ST, σ_508 = st_uJ σ_491 a_499 (Int32.toNatClampNeg 4) ((((st_eJ σ_491 a_499 (Int32.toNatClampNeg 4))) + ((st_eJ σ_491 a_503 (Int32.toNatClampNeg v4))))) → (∃ a_518 : Nat, (st_R σ_508 41 h0) = some a_518 ∧ st_tg σ_508 a_518 = some 301 ∧ (vp_in v4 (st_ln σ_508 a_518) ∧ (∀ σ_522 : ST, σ_522 = st_uI σ_508 a_518 (Int32.toNatClampNeg v4) 3 → (∃ a_533 : Nat, (st_R σ_522 48 h0) = some a_533 ∧ st_tg σ_522 a_533 = some 301 ∧ (vp_in v4 (st_ln σ_522 a_533) ∧ (∀ σ_537 : ST, σ_537 = st_uI σ_522 a_533 (Int32.toNatClampNeg v4) ((-1)) → (∀ x_549 : Int32, x_549 = v3 + 1 → (∀ x_551 : Int32, x_551 = v4 + 1 → (wb_M_tick_14 h0 K n σ_537 v1 x_549 x_551)))))))))))))))))))))))))))))))))))))))))))
def wp_M_tick (σ : ST) (h0 : Nat) (p1 : Int64) (K : Int32 → ST → Prop) : Prop :=
  (((0 ≤ ((lg_cmp p1 0))) → ∃ n : Nat, wb_M_tick_14 h0 K n σ p1 0 1) ∧
  ((¬ 0 ≤ ((lg_cmp p1 0))) → K ((-102)) σ))
abbrev ROOM_M_tick : Room := { frames := 0, cells := 0, slots := 0, locals := 0 }
set_option maxHeartbeats 4000000 in
set_option maxRecDepth 100000 in
theorem mc_M_tick (l : Launch) (D : va_G) (A : Nat → Prop) (σ : ST) (h0 : Nat) (p1 : Int64) (K : Int32 → ST → Prop) : Met l y_M_tick ws_M_tick ROOM_M_tick (va_Pc [.ref h0, .long p1] (fun U => mw D A σ U ∧ mn U ∧ wp_M_tick σ h0 p1 K)) (va_Qi K (mw D A) A) 0 0 A := by
  refine Met.ofW (cc := c_M_tick) (maxL := 6) (ret := (some .int)) (by decide) rfl ?_
  intro p e s m args below meth c s₁ B hml hv
  obtain ⟨rfl, ⟨hH, hK, hA⟩, hn, h⟩ := hv
  have hx := B.exec
  have hb := B.bytes
  have hr := B.returns
  have hts := atoms_spec (ws := ws_M_tick) B.pre
  have hown : s.vm.findClass R_M = some m.cls := findClass_of_methodNamed B.named
  have hlocks := B.notSynchronized
  have hts : ∀ w ∈ lw_g, w.before ([.ref h0, .long p1] : List Value).toArray s = true := fun w hw => hts w (List.mem_cons_of_mem _ hw)
  have b_14 : ∀ (n : Nat), ∀ (σ : ST) (v1 : Int64) (v3 : Int32) (v4 : Int32) (H : Heap) (locs : List Loc) (ls : Array Slot), mg_H D vwCl A (st_cell σ) H → mk_K D σ s → va_S A s.heap H locs → lv_has ls 6 [(0, va_rf (some h0)), (1, .long v1), (3, .int v3), (4, .int v4)] → wb_M_tick_14 h0 K n σ v1 v3 v4 → W p l e (headSpec ws_M_tick ROOM_M_tick).room s m ([.ref h0, .long p1] : List Value).toArray below meth c H locs 0 0 (MQ below (va_Qi K (mw D A) A) ([.ref h0, .long p1] : List Value).toArray s 0 0 A) (F0 m 14 ls []) := by
    intro n
    induction n with
    | zero =>
      intro σ v1 v3 v4 H locs ls hH hK hS hl h
      exact h.elim
    | succ n ih =>
      intro σ v1 v3 v4 H locs ls hH hK hS hl h
      unfold wb_M_tick_14 at h
      refine lv_iload hx hb d_M_tick_14 (lv_at hl 3 rfl) ?_
      refine mr_aload_n hx hb d_M_tick_16 rfl (lv_at hl 0 rfl) ?_
      obtain ⟨t_2, h⟩ := h
      refine ms_get (σ := σ) (r := some h0) (a := h0) (fs := fl_1 σ h0) (ci := 1) (C := R_M) (T := T_M) (N := 32) hx hb hts in_1 hown hK hH rfl (cell_1 t_2) rfl 0 (by decide) (hts _ wd_417) (fun _ h9 => h9) (v := .int (st_I σ 40 h0)) rfl d_M_tick_17 ?_
      refine lv_icmp_gt (tgt := 154) hx hb d_M_tick_20 (by decide) (fun c_3 => ?_) (fun c_3 => ?_)
      · have h := h.1 c_3
        refine lv_iload_n hx hb d_M_tick_154 rfl (lv_at hl 2 rfl) ?_
        exact W.iret (v := v3) hx hb hr (fun t ht hW => ⟨⟨v3, σ, rfl, h, mw_pass hH hK hA hS ht hW⟩, hS.F ht⟩) hS.2.2 d_M_tick_155
      · have h := h.2 c_3
        refine mr_aload_n hx hb d_M_tick_23 rfl (lv_at hl 0 rfl) ?_
        refine ms_get (σ := σ) (r := some h0) (a := h0) (fs := fl_1 σ h0) (ci := 1) (C := R_M) (T := T_M) (N := 32) hx hb hts in_1 hown hK hH rfl (cell_1 t_2) rfl 1 (by decide) (hts _ wd_418) (fun _ h9 => h9) (v := va_rf (st_R σ 41 h0)) rfl d_M_tick_24 ?_
        refine lv_iload hx hb d_M_tick_27 (lv_at hl 3 rfl) ?_
        obtain ⟨a_4, e_5, t_6, h⟩ := h
        obtain ⟨b_7, h⟩ := h
        refine ms_iald (σ := σ) (r := (st_R σ 41 h0)) (a := a_4) hx hb hK hH e_5 t_6 rfl (cell_301 t_6) b_7 d_M_tick_29 ?_
        refine lv_if_eq (tgt := 44) hx hb d_M_tick_30 (by decide) (fun c_8 => ?_) (fun c_8 => ?_)
        · have h := h.1 c_8
          refine mr_aload_n hx hb d_M_tick_44 rfl (lv_at hl 0 rfl) ?_
          refine ms_get (σ := σ) (r := some h0) (a := h0) (fs := fl_1 σ h0) (ci := 1) (C := R_M) (T := T_M) (N := 32) hx hb hts in_1 hown hK hH rfl (cell_1 t_2) rfl 3 (by decide) (hts _ wd_420) (fun _ h9 => h9) (v := va_rf (st_R σ 43 h0)) rfl d_M_tick_45 ?_
          refine lv_iload hx hb d_M_tick_48 (lv_at hl 3 rfl) ?_
          obtain ⟨a_9, e_10, t_11, h⟩ := h
          obtain ⟨b_12, h⟩ := h
          refine ms_lald (σ := σ) (r := (st_R σ 43 h0)) (a := a_9) hx hb hK hH e_10 t_11 rfl (cell_302 t_11) b_12 d_M_tick_50 ?_
          refine lv_lload_n hx hb d_M_tick_51 rfl (lv_at hl 1 rfl) ?_
          refine W.lcmp hx hb d_M_tick_52 ?_
          refine lv_if_ge (tgt := 83) hx hb d_M_tick_53 (by decide) (fun c_13 => ?_) (fun c_13 => ?_)
          · have h := h.1 c_13
            refine lv_iconst (v := 0) hx hb d_M_tick_83 (by decide) ?_
            refine lv_istore (lv' := [(5, .int 0), (0, va_rf (some h0)), (1, .long v1), (3, .int v3), (4, .int v4)]) hx hb d_M_tick_84 hl (by decide) rfl (fun ls hl => ?_)
            refine lv_iload hx hb d_M_tick_86 (lv_at hl 0 rfl) ?_
            refine lv_if_eq (tgt := 148) hx hb d_M_tick_88 (by decide) (fun c_14 => ?_) (fun c_14 => ?_)
            · have h := h.1 c_14
              obtain ⟨x_15, q_16⟩ : ∃ y : Int32, y = v4 + 1 := ⟨_, rfl⟩
              have h := h x_15 q_16
              refine lv_iinc (v := x_15) (lv' := [(4, .int x_15), (5, .int 0), (0, va_rf (some h0)), (1, .long v1), (3, .int v3)]) hx hb d_M_tick_148 hl (k := 4) rfl (by rw [q_16]; rfl) (by decide) rfl (fun ls hl => ?_)
              refine lv_goto (tgt := 14) hx hb d_M_tick_151 (by decide) ?_
              exact ih _ _ _ _ _ _ _ hH hK hS (lv_sub hl [2, 3, 4, 0] rfl) h
            · have h := h.2 c_14
              refine mr_aload_n hx hb d_M_tick_91 rfl (lv_at hl 1 rfl) ?_
              refine ms_get (σ := σ) (r := some h0) (a := h0) (fs := fl_1 σ h0) (ci := 1) (C := R_M) (T := T_M) (N := 32) hx hb hts in_1 hown hK hH rfl (cell_1 t_2) rfl 12 (by decide) (hts _ wd_429) (fun _ h9 => h9) (v := va_rf (st_R σ 52 h0)) rfl d_M_tick_92 ?_
              refine mr_aload_n hx hb d_M_tick_95 rfl (lv_at hl 1 rfl) ?_
              refine ms_get (σ := σ) (r := some h0) (a := h0) (fs := fl_1 σ h0) (ci := 1) (C := R_M) (T := T_M) (N := 32) hx hb hts in_1 hown hK hH rfl (cell_1 t_2) rfl 6 (by decide) (hts _ wd_423) (fun _ h9 => h9) (v := va_rf (st_R σ 46 h0)) rfl d_M_tick_96 ?_
              refine lv_iload hx hb d_M_tick_99 (lv_at hl 4 rfl) ?_
              obtain ⟨a_17, e_18, t_19, h⟩ := h
              obtain ⟨b_20, h⟩ := h
              refine ms_iald (σ := σ) (r := (st_R σ 46 h0)) (a := a_17) hx hb hK hH e_18 t_19 rfl (cell_301 t_19) b_20 d_M_tick_101 ?_
              refine lv_dup2_11 hx hb d_M_tick_102 rfl (cat_rf _) ?_
              obtain ⟨a_21, e_22, t_23, h⟩ := h
              obtain ⟨b_24, h⟩ := h
              refine ms_lald (σ := σ) (r := (st_R σ 52 h0)) (a := a_21) hx hb hK hH e_22 t_23 rfl (cell_302 t_23) b_24 d_M_tick_103 ?_
              refine mr_aload_n hx hb d_M_tick_104 rfl (lv_at hl 1 rfl) ?_
              refine ms_get (σ := σ) (r := some h0) (a := h0) (fs := fl_1 σ h0) (ci := 1) (C := R_M) (T := T_M) (N := 32) hx hb hts in_1 hown hK hH rfl (cell_1 t_2) rfl 2 (by decide) (hts _ wd_419) (fun _ h9 => h9) (v := va_rf (st_R σ 42 h0)) rfl d_M_tick_105 ?_
              refine lv_iload hx hb d_M_tick_108 (lv_at hl 4 rfl) ?_
              obtain ⟨a_25, e_26, t_27, h⟩ := h
              obtain ⟨b_28, h⟩ := h
              refine ms_lald (σ := σ) (r := (st_R σ 42 h0)) (a := a_25) hx hb hK hH e_26 t_27 rfl (cell_302 t_27) b_28 d_M_tick_110 ?_
              refine lv_lsub hx hb d_M_tick_111 ?_
              obtain ⟨b_29, h⟩ := h
              obtain ⟨σ_30, z_31⟩ : ∃ y : ST, y = st_uJ σ a_21 (Int32.toNatClampNeg ((st_eI σ a_17 (Int32.toNatClampNeg v4)))) ((((st_eJ σ a_21 (Int32.toNatClampNeg ((st_eI σ a_17 (Int32.toNatClampNeg v4)))))) - ((st_eJ σ a_25 (Int32.toNatClampNeg v4))))) := ⟨_, rfl⟩
              have h := h σ_30 z_31
              refine ms_last (σ := σ) (r := (st_R σ 52 h0)) (a := a_21) (x := (((st_eJ σ a_21 (Int32.toNatClampNeg ((st_eI σ a_17 (Int32.toNatClampNeg v4)))))) - ((st_eJ σ a_25 (Int32.toNatClampNeg v4))))) hx hb hK hH hS e_22 t_23 rfl (cell_302 t_23)  b_29 d_M_tick_112 (σ1 := σ_30) (by rw [z_31]; exact uput_302 σ a_21 _ ((((st_eJ σ a_21 (Int32.toNatClampNeg ((st_eI σ a_17 (Int32.toNatClampNeg v4)))))) - ((st_eJ σ a_25 (Int32.toNatClampNeg v4))))) t_23) (by rw [z_31]; rfl) (by rw [z_31]; rfl) (fun H locs hH hK hS => ?_)
              have t_32 : st_tg σ_30 h0 = some 1 := by rw [z_31]; exact t_2
              have t_33 : st_tg σ_30 a_4 = some 301 := by rw [z_31]; exact t_6
              have t_34 : st_tg σ_30 a_9 = some 302 := by rw [z_31]; exact t_11
              have t_35 : st_tg σ_30 a_17 = some 301 := by rw [z_31]; exact t_19
              have t_36 : st_tg σ_30 a_21 = some 302 := by rw [z_31]; exact t_23
              have t_37 : st_tg σ_30 a_25 = some 302 := by rw [z_31]; exact t_27
              refine mr_aload_n hx hb d_M_tick_113 rfl (lv_at hl 1 rfl) ?_
              refine ms_get (σ := σ_30) (r := some h0) (a := h0) (fs := fl_1 σ_30 h0) (ci := 1) (C := R_M) (T := T_M) (N := 32) hx hb hts in_1 hown hK hH rfl (cell_1 t_32) rfl 31 (by decide) (hts _ wd_448) (fun _ h9 => h9) (v := va_rf (st_R σ_30 71 h0)) rfl d_M_tick_114 ?_
              refine lv_iconst (v := 4) hx hb d_M_tick_117 (by decide) ?_
              refine lv_dup2_11 hx hb d_M_tick_118 rfl (cat_rf _) ?_
              obtain ⟨a_38, e_39, t_40, h⟩ := h
              obtain ⟨b_41, h⟩ := h
              refine ms_lald (σ := σ_30) (r := (st_R σ_30 71 h0)) (a := a_38) hx hb hK hH e_39 t_40 rfl (cell_302 t_40) b_41 d_M_tick_119 ?_
              refine mr_aload_n hx hb d_M_tick_120 rfl (lv_at hl 1 rfl) ?_
              refine ms_get (σ := σ_30) (r := some h0) (a := h0) (fs := fl_1 σ_30 h0) (ci := 1) (C := R_M) (T := T_M) (N := 32) hx hb hts in_1 hown hK hH rfl (cell_1 t_32) rfl 2 (by decide) (hts _ wd_419) (fun _ h9 => h9) (v := va_rf (st_R σ_30 42 h0)) rfl d_M_tick_121 ?_
              refine lv_iload hx hb d_M_tick_124 (lv_at hl 4 rfl) ?_
              obtain ⟨a_42, e_43, t_44, h⟩ := h
              obtain ⟨b_45, h⟩ := h
              refine ms_lald (σ := σ_30) (r := (st_R σ_30 42 h0)) (a := a_42) hx hb hK hH e_43 t_44 rfl (cell_302 t_44) b_45 d_M_tick_126 ?_
              refine lv_ladd hx hb d_M_tick_127 ?_
              obtain ⟨b_46, h⟩ := h
              obtain ⟨σ_47, z_48⟩ : ∃ y : ST, y = st_uJ σ_30 a_38 (Int32.toNatClampNeg 4) ((((st_eJ σ_30 a_38 (Int32.toNatClampNeg 4))) + ((st_eJ σ_30 a_42 (Int32.toNatClampNeg v4))))) := ⟨_, rfl⟩
              have h := h σ_47 z_48
              refine ms_last (σ := σ_30) (r := (st_R σ_30 71 h0)) (a := a_38) (x := (((st_eJ σ_30 a_38 (Int32.toNatClampNeg 4))) + ((st_eJ σ_30 a_42 (Int32.toNatClampNeg v4))))) hx hb hK hH hS e_39 t_40 rfl (cell_302 t_40)  b_46 d_M_tick_128 (σ1 := σ_47) (by rw [z_48]; exact uput_302 σ_30 a_38 _ ((((st_eJ σ_30 a_38 (Int32.toNatClampNeg 4))) + ((st_eJ σ_30 a_42 (Int32.toNatClampNeg v4))))) t_40) (by rw [z_48]; rfl) (by rw [z_48]; rfl) (fun H locs hH hK hS => ?_)
              have t_49 : st_tg σ_47 h0 = some 1 := by rw [z_48]; exact t_32
              have t_50 : st_tg σ_47 a_4 = some 301 := by rw [z_48]; exact t_33
              have t_51 : st_tg σ_47 a_9 = some 302 := by rw [z_48]; exact t_34
              have t_52 : st_tg σ_47 a_17 = some 301 := by rw [z_48]; exact t_35
              have t_53 : st_tg σ_47 a_21 = some 302 := by rw [z_48]; exact t_36
              have t_54 : st_tg σ_47 a_25 = some 302 := by rw [z_48]; exact t_37
              have t_55 : st_tg σ_47 a_38 = some 302 := by rw [z_48]; exact t_40
              have t_56 : st_tg σ_47 a_42 = some 302 := by rw [z_48]; exact t_44
              refine mr_aload_n hx hb d_M_tick_129 rfl (lv_at hl 1 rfl) ?_
              refine ms_get (σ := σ_47) (r := some h0) (a := h0) (fs := fl_1 σ_47 h0) (ci := 1) (C := R_M) (T := T_M) (N := 32) hx hb hts in_1 hown hK hH rfl (cell_1 t_49) rfl 1 (by decide) (hts _ wd_418) (fun _ h9 => h9) (v := va_rf (st_R σ_47 41 h0)) rfl d_M_tick_130 ?_
              refine lv_iload hx hb d_M_tick_133 (lv_at hl 4 rfl) ?_
              refine lv_iconst (v := 3) hx hb d_M_tick_135 (by decide) ?_
              obtain ⟨a_57, e_58, t_59, h⟩ := h
              obtain ⟨b_60, h⟩ := h
              obtain ⟨σ_61, z_62⟩ : ∃ y : ST, y = st_uI σ_47 a_57 (Int32.toNatClampNeg v4) 3 := ⟨_, rfl⟩
              have h := h σ_61 z_62
              refine ms_iast (σ := σ_47) (r := (st_R σ_47 41 h0)) (a := a_57) (x := 3) hx hb hK hH hS e_58 t_59 rfl (cell_301 t_59)  b_60 d_M_tick_136 (σ1 := σ_61) (by rw [z_62]; exact uput_301 σ_47 a_57 _ 3 t_59) (by rw [z_62]; rfl) (by rw [z_62]; rfl) (fun H locs hH hK hS => ?_)
              have t_63 : st_tg σ_61 h0 = some 1 := by rw [z_62]; exact t_49
              have t_64 : st_tg σ_61 a_4 = some 301 := by rw [z_62]; exact t_50
              have t_65 : st_tg σ_61 a_9 = some 302 := by rw [z_62]; exact t_51
              have t_66 : st_tg σ_61 a_17 = some 301 := by rw [z_62]; exact t_52
              have t_67 : st_tg σ_61 a_21 = some 302 := by rw [z_62]; exact t_53
              have t_68 : st_tg σ_61 a_25 = some 302 := by rw [z_62]; exact t_54
              have t_69 : st_tg σ_61 a_38 = some 302 := by rw [z_62]; exact t_55
              have t_70 : st_tg σ_61 a_42 = some 302 := by rw [z_62]; exact t_56
              have t_71 : st_tg σ_61 a_57 = some 301 := by rw [z_62]; exact t_59
              refine mr_aload_n hx hb d_M_tick_137 rfl (lv_at hl 1 rfl) ?_
              refine ms_get (σ := σ_61) (r := some h0) (a := h0) (fs := fl_1 σ_61 h0) (ci := 1) (C := R_M) (T := T_M) (N := 32) hx hb hts in_1 hown hK hH rfl (cell_1 t_63) rfl 8 (by decide) (hts _ wd_425) (fun _ h9 => h9) (v := va_rf (st_R σ_61 48 h0)) rfl d_M_tick_138 ?_
              refine lv_iload hx hb d_M_tick_141 (lv_at hl 4 rfl) ?_
              refine lv_iconst (v := (-1)) hx hb d_M_tick_143 (by decide) ?_
              obtain ⟨a_72, e_73, t_74, h⟩ := h
              obtain ⟨b_75, h⟩ := h
              obtain ⟨σ_76, z_77⟩ : ∃ y : ST, y = st_uI σ_61 a_72 (Int32.toNatClampNeg v4) ((-1)) := ⟨_, rfl⟩
              have h := h σ_76 z_77
              refine ms_iast (σ := σ_61) (r := (st_R σ_61 48 h0)) (a := a_72) (x := (-1)) hx hb hK hH hS e_73 t_74 rfl (cell_301 t_74)  b_75 d_M_tick_144 (σ1 := σ_76) (by rw [z_77]; exact uput_301 σ_61 a_72 _ ((-1)) t_74) (by rw [z_77]; rfl) (by rw [z_77]; rfl) (fun H locs hH hK hS => ?_)
              have t_78 : st_tg σ_76 h0 = some 1 := by rw [z_77]; exact t_63
              have t_79 : st_tg σ_76 a_4 = some 301 := by rw [z_77]; exact t_64
              have t_80 : st_tg σ_76 a_9 = some 302 := by rw [z_77]; exact t_65
              have t_81 : st_tg σ_76 a_17 = some 301 := by rw [z_77]; exact t_66
              have t_82 : st_tg σ_76 a_21 = some 302 := by rw [z_77]; exact t_67
              have t_83 : st_tg σ_76 a_25 = some 302 := by rw [z_77]; exact t_68
              have t_84 : st_tg σ_76 a_38 = some 302 := by rw [z_77]; exact t_69
              have t_85 : st_tg σ_76 a_42 = some 302 := by rw [z_77]; exact t_70
              have t_86 : st_tg σ_76 a_57 = some 301 := by rw [z_77]; exact t_71
              have t_87 : st_tg σ_76 a_72 = some 301 := by rw [z_77]; exact t_74
              obtain ⟨x_88, q_89⟩ : ∃ y : Int32, y = v3 + 1 := ⟨_, rfl⟩
              have h := h x_88 q_89
              refine lv_iinc (v := x_88) (lv' := [(3, .int x_88), (5, .int 0), (0, va_rf (some h0)), (1, .long v1), (4, .int v4)]) hx hb d_M_tick_145 hl (k := 3) rfl (by rw [q_89]; rfl) (by decide) rfl (fun ls hl => ?_)
              obtain ⟨x_90, q_91⟩ : ∃ y : Int32, y = v4 + 1 := ⟨_, rfl⟩
              have h := h x_90 q_91
              refine lv_iinc (v := x_90) (lv' := [(4, .int x_90), (3, .int x_88), (5, .int 0), (0, va_rf (some h0)), (1, .long v1)]) hx hb d_M_tick_148 hl (k := 4) rfl (by rw [q_91]; rfl) (by decide) rfl (fun ls hl => ?_)
              refine lv_goto (tgt := 14) hx hb d_M_tick_151 (by decide) ?_
              exact ih _ _ _ _ _ _ _ hH hK hS (lv_sub hl [3, 4, 1, 0] rfl) h
          · have h := h.2 c_13
            refine mr_aload_n hx hb d_M_tick_56 rfl (lv_at hl 0 rfl) ?_
            refine ms_get (σ := σ) (r := some h0) (a := h0) (fs := fl_1 σ h0) (ci := 1) (C := R_M) (T := T_M) (N := 32) hx hb hts in_1 hown hK hH rfl (cell_1 t_2) rfl 12 (by decide) (hts _ wd_429) (fun _ h9 => h9) (v := va_rf (st_R σ 52 h0)) rfl d_M_tick_57 ?_
            refine mr_aload_n hx hb d_M_tick_60 rfl (lv_at hl 0 rfl) ?_
            refine ms_get (σ := σ) (r := some h0) (a := h0) (fs := fl_1 σ h0) (ci := 1) (C := R_M) (T := T_M) (N := 32) hx hb hts in_1 hown hK hH rfl (cell_1 t_2) rfl 6 (by decide) (hts _ wd_423) (fun _ h9 => h9) (v := va_rf (st_R σ 46 h0)) rfl d_M_tick_61 ?_
            refine lv_iload hx hb d_M_tick_64 (lv_at hl 3 rfl) ?_
            obtain ⟨a_92, e_93, t_94, h⟩ := h
            obtain ⟨b_95, h⟩ := h
            refine ms_iald (σ := σ) (r := (st_R σ 46 h0)) (a := a_92) hx hb hK hH e_93 t_94 rfl (cell_301 t_94) b_95 d_M_tick_66 ?_
            obtain ⟨a_96, e_97, t_98, h⟩ := h
            obtain ⟨b_99, h⟩ := h
            refine ms_lald (σ := σ) (r := (st_R σ 52 h0)) (a := a_96) hx hb hK hH e_97 t_98 rfl (cell_302 t_98) b_99 d_M_tick_67 ?_
            refine mr_aload_n hx hb d_M_tick_68 rfl (lv_at hl 0 rfl) ?_
            refine ms_get (σ := σ) (r := some h0) (a := h0) (fs := fl_1 σ h0) (ci := 1) (C := R_M) (T := T_M) (N := 32) hx hb hts in_1 hown hK hH rfl (cell_1 t_2) rfl 2 (by decide) (hts _ wd_419) (fun _ h9 => h9) (v := va_rf (st_R σ 42 h0)) rfl d_M_tick_69 ?_
            refine lv_iload hx hb d_M_tick_72 (lv_at hl 3 rfl) ?_
            obtain ⟨a_100, e_101, t_102, h⟩ := h
            obtain ⟨b_103, h⟩ := h
            refine ms_lald (σ := σ) (r := (st_R σ 42 h0)) (a := a_100) hx hb hK hH e_101 t_102 rfl (cell_302 t_102) b_103 d_M_tick_74 ?_
            refine W.lcmp hx hb d_M_tick_75 ?_
            refine lv_if_lt (tgt := 83) hx hb d_M_tick_76 (by decide) (fun c_104 => ?_) (fun c_104 => ?_)
            · have h := h.1 c_104
              refine lv_iconst (v := 0) hx hb d_M_tick_83 (by decide) ?_
              refine lv_istore (lv' := [(5, .int 0), (0, va_rf (some h0)), (1, .long v1), (3, .int v3), (4, .int v4)]) hx hb d_M_tick_84 hl (by decide) rfl (fun ls hl => ?_)
              refine lv_iload hx hb d_M_tick_86 (lv_at hl 0 rfl) ?_
              refine lv_if_eq (tgt := 148) hx hb d_M_tick_88 (by decide) (fun c_105 => ?_) (fun c_105 => ?_)
              · have h := h.1 c_105
                obtain ⟨x_106, q_107⟩ : ∃ y : Int32, y = v4 + 1 := ⟨_, rfl⟩
                have h := h x_106 q_107
                refine lv_iinc (v := x_106) (lv' := [(4, .int x_106), (5, .int 0), (0, va_rf (some h0)), (1, .long v1), (3, .int v3)]) hx hb d_M_tick_148 hl (k := 4) rfl (by rw [q_107]; rfl) (by decide) rfl (fun ls hl => ?_)
                refine lv_goto (tgt := 14) hx hb d_M_tick_151 (by decide) ?_
                exact ih _ _ _ _ _ _ _ hH hK hS (lv_sub hl [2, 3, 4, 0] rfl) h
              · have h := h.2 c_105
                refine mr_aload_n hx hb d_M_tick_91 rfl (lv_at hl 1 rfl) ?_
                refine ms_get (σ := σ) (r := some h0) (a := h0) (fs := fl_1 σ h0) (ci := 1) (C := R_M) (T := T_M) (N := 32) hx hb hts in_1 hown hK hH rfl (cell_1 t_2) rfl 12 (by decide) (hts _ wd_429) (fun _ h9 => h9) (v := va_rf (st_R σ 52 h0)) rfl d_M_tick_92 ?_
                refine mr_aload_n hx hb d_M_tick_95 rfl (lv_at hl 1 rfl) ?_
                refine ms_get (σ := σ) (r := some h0) (a := h0) (fs := fl_1 σ h0) (ci := 1) (C := R_M) (T := T_M) (N := 32) hx hb hts in_1 hown hK hH rfl (cell_1 t_2) rfl 6 (by decide) (hts _ wd_423) (fun _ h9 => h9) (v := va_rf (st_R σ 46 h0)) rfl d_M_tick_96 ?_
                refine lv_iload hx hb d_M_tick_99 (lv_at hl 4 rfl) ?_
                obtain ⟨b_108, h⟩ := h
                refine ms_iald (σ := σ) (r := (st_R σ 46 h0)) (a := a_92) hx hb hK hH e_93 t_94 rfl (cell_301 t_94) b_108 d_M_tick_101 ?_
                refine lv_dup2_11 hx hb d_M_tick_102 rfl (cat_rf _) ?_
                obtain ⟨b_109, h⟩ := h
                refine ms_lald (σ := σ) (r := (st_R σ 52 h0)) (a := a_96) hx hb hK hH e_97 t_98 rfl (cell_302 t_98) b_109 d_M_tick_103 ?_
                refine mr_aload_n hx hb d_M_tick_104 rfl (lv_at hl 1 rfl) ?_
                refine ms_get (σ := σ) (r := some h0) (a := h0) (fs := fl_1 σ h0) (ci := 1) (C := R_M) (T := T_M) (N := 32) hx hb hts in_1 hown hK hH rfl (cell_1 t_2) rfl 2 (by decide) (hts _ wd_419) (fun _ h9 => h9) (v := va_rf (st_R σ 42 h0)) rfl d_M_tick_105 ?_
                refine lv_iload hx hb d_M_tick_108 (lv_at hl 4 rfl) ?_
                obtain ⟨b_110, h⟩ := h
                refine ms_lald (σ := σ) (r := (st_R σ 42 h0)) (a := a_100) hx hb hK hH e_101 t_102 rfl (cell_302 t_102) b_110 d_M_tick_110 ?_
                refine lv_lsub hx hb d_M_tick_111 ?_
                obtain ⟨b_111, h⟩ := h
                obtain ⟨σ_112, z_113⟩ : ∃ y : ST, y = st_uJ σ a_96 (Int32.toNatClampNeg ((st_eI σ a_92 (Int32.toNatClampNeg v4)))) ((((st_eJ σ a_96 (Int32.toNatClampNeg ((st_eI σ a_92 (Int32.toNatClampNeg v4)))))) - ((st_eJ σ a_100 (Int32.toNatClampNeg v4))))) := ⟨_, rfl⟩
                have h := h σ_112 z_113
                refine ms_last (σ := σ) (r := (st_R σ 52 h0)) (a := a_96) (x := (((st_eJ σ a_96 (Int32.toNatClampNeg ((st_eI σ a_92 (Int32.toNatClampNeg v4)))))) - ((st_eJ σ a_100 (Int32.toNatClampNeg v4))))) hx hb hK hH hS e_97 t_98 rfl (cell_302 t_98)  b_111 d_M_tick_112 (σ1 := σ_112) (by rw [z_113]; exact uput_302 σ a_96 _ ((((st_eJ σ a_96 (Int32.toNatClampNeg ((st_eI σ a_92 (Int32.toNatClampNeg v4)))))) - ((st_eJ σ a_100 (Int32.toNatClampNeg v4))))) t_98) (by rw [z_113]; rfl) (by rw [z_113]; rfl) (fun H locs hH hK hS => ?_)
                have t_114 : st_tg σ_112 h0 = some 1 := by rw [z_113]; exact t_2
                have t_115 : st_tg σ_112 a_4 = some 301 := by rw [z_113]; exact t_6
                have t_116 : st_tg σ_112 a_9 = some 302 := by rw [z_113]; exact t_11
                have t_117 : st_tg σ_112 a_92 = some 301 := by rw [z_113]; exact t_94
                have t_118 : st_tg σ_112 a_96 = some 302 := by rw [z_113]; exact t_98
                have t_119 : st_tg σ_112 a_100 = some 302 := by rw [z_113]; exact t_102
                refine mr_aload_n hx hb d_M_tick_113 rfl (lv_at hl 1 rfl) ?_
                refine ms_get (σ := σ_112) (r := some h0) (a := h0) (fs := fl_1 σ_112 h0) (ci := 1) (C := R_M) (T := T_M) (N := 32) hx hb hts in_1 hown hK hH rfl (cell_1 t_114) rfl 31 (by decide) (hts _ wd_448) (fun _ h9 => h9) (v := va_rf (st_R σ_112 71 h0)) rfl d_M_tick_114 ?_
                refine lv_iconst (v := 4) hx hb d_M_tick_117 (by decide) ?_
                refine lv_dup2_11 hx hb d_M_tick_118 rfl (cat_rf _) ?_
                obtain ⟨a_120, e_121, t_122, h⟩ := h
                obtain ⟨b_123, h⟩ := h
                refine ms_lald (σ := σ_112) (r := (st_R σ_112 71 h0)) (a := a_120) hx hb hK hH e_121 t_122 rfl (cell_302 t_122) b_123 d_M_tick_119 ?_
                refine mr_aload_n hx hb d_M_tick_120 rfl (lv_at hl 1 rfl) ?_
                refine ms_get (σ := σ_112) (r := some h0) (a := h0) (fs := fl_1 σ_112 h0) (ci := 1) (C := R_M) (T := T_M) (N := 32) hx hb hts in_1 hown hK hH rfl (cell_1 t_114) rfl 2 (by decide) (hts _ wd_419) (fun _ h9 => h9) (v := va_rf (st_R σ_112 42 h0)) rfl d_M_tick_121 ?_
                refine lv_iload hx hb d_M_tick_124 (lv_at hl 4 rfl) ?_
                obtain ⟨a_124, e_125, t_126, h⟩ := h
                obtain ⟨b_127, h⟩ := h
                refine ms_lald (σ := σ_112) (r := (st_R σ_112 42 h0)) (a := a_124) hx hb hK hH e_125 t_126 rfl (cell_302 t_126) b_127 d_M_tick_126 ?_
                refine lv_ladd hx hb d_M_tick_127 ?_
                obtain ⟨b_128, h⟩ := h
                obtain ⟨σ_129, z_130⟩ : ∃ y : ST, y = st_uJ σ_112 a_120 (Int32.toNatClampNeg 4) ((((st_eJ σ_112 a_120 (Int32.toNatClampNeg 4))) + ((st_eJ σ_112 a_124 (Int32.toNatClampNeg v4))))) := ⟨_, rfl⟩
                have h := h σ_129 z_130
                refine ms_last (σ := σ_112) (r := (st_R σ_112 71 h0)) (a := a_120) (x := (((st_eJ σ_112 a_120 (Int32.toNatClampNeg 4))) + ((st_eJ σ_112 a_124 (Int32.toNatClampNeg v4))))) hx hb hK hH hS e_121 t_122 rfl (cell_302 t_122)  b_128 d_M_tick_128 (σ1 := σ_129) (by rw [z_130]; exact uput_302 σ_112 a_120 _ ((((st_eJ σ_112 a_120 (Int32.toNatClampNeg 4))) + ((st_eJ σ_112 a_124 (Int32.toNatClampNeg v4))))) t_122) (by rw [z_130]; rfl) (by rw [z_130]; rfl) (fun H locs hH hK hS => ?_)
                have t_131 : st_tg σ_129 h0 = some 1 := by rw [z_130]; exact t_114
                have t_132 : st_tg σ_129 a_4 = some 301 := by rw [z_130]; exact t_115
                have t_133 : st_tg σ_129 a_9 = some 302 := by rw [z_130]; exact t_116
                have t_134 : st_tg σ_129 a_92 = some 301 := by rw [z_130]; exact t_117
                have t_135 : st_tg σ_129 a_96 = some 302 := by rw [z_130]; exact t_118
                have t_136 : st_tg σ_129 a_100 = some 302 := by rw [z_130]; exact t_119
                have t_137 : st_tg σ_129 a_120 = some 302 := by rw [z_130]; exact t_122
                have t_138 : st_tg σ_129 a_124 = some 302 := by rw [z_130]; exact t_126
                refine mr_aload_n hx hb d_M_tick_129 rfl (lv_at hl 1 rfl) ?_
                refine ms_get (σ := σ_129) (r := some h0) (a := h0) (fs := fl_1 σ_129 h0) (ci := 1) (C := R_M) (T := T_M) (N := 32) hx hb hts in_1 hown hK hH rfl (cell_1 t_131) rfl 1 (by decide) (hts _ wd_418) (fun _ h9 => h9) (v := va_rf (st_R σ_129 41 h0)) rfl d_M_tick_130 ?_
                refine lv_iload hx hb d_M_tick_133 (lv_at hl 4 rfl) ?_
                refine lv_iconst (v := 3) hx hb d_M_tick_135 (by decide) ?_
                obtain ⟨a_139, e_140, t_141, h⟩ := h
                obtain ⟨b_142, h⟩ := h
                obtain ⟨σ_143, z_144⟩ : ∃ y : ST, y = st_uI σ_129 a_139 (Int32.toNatClampNeg v4) 3 := ⟨_, rfl⟩
                have h := h σ_143 z_144
                refine ms_iast (σ := σ_129) (r := (st_R σ_129 41 h0)) (a := a_139) (x := 3) hx hb hK hH hS e_140 t_141 rfl (cell_301 t_141)  b_142 d_M_tick_136 (σ1 := σ_143) (by rw [z_144]; exact uput_301 σ_129 a_139 _ 3 t_141) (by rw [z_144]; rfl) (by rw [z_144]; rfl) (fun H locs hH hK hS => ?_)
                have t_145 : st_tg σ_143 h0 = some 1 := by rw [z_144]; exact t_131
                have t_146 : st_tg σ_143 a_4 = some 301 := by rw [z_144]; exact t_132
                have t_147 : st_tg σ_143 a_9 = some 302 := by rw [z_144]; exact t_133
                have t_148 : st_tg σ_143 a_92 = some 301 := by rw [z_144]; exact t_134
                have t_149 : st_tg σ_143 a_96 = some 302 := by rw [z_144]; exact t_135
                have t_150 : st_tg σ_143 a_100 = some 302 := by rw [z_144]; exact t_136
                have t_151 : st_tg σ_143 a_120 = some 302 := by rw [z_144]; exact t_137
                have t_152 : st_tg σ_143 a_124 = some 302 := by rw [z_144]; exact t_138
                have t_153 : st_tg σ_143 a_139 = some 301 := by rw [z_144]; exact t_141
                refine mr_aload_n hx hb d_M_tick_137 rfl (lv_at hl 1 rfl) ?_
                refine ms_get (σ := σ_143) (r := some h0) (a := h0) (fs := fl_1 σ_143 h0) (ci := 1) (C := R_M) (T := T_M) (N := 32) hx hb hts in_1 hown hK hH rfl (cell_1 t_145) rfl 8 (by decide) (hts _ wd_425) (fun _ h9 => h9) (v := va_rf (st_R σ_143 48 h0)) rfl d_M_tick_138 ?_
                refine lv_iload hx hb d_M_tick_141 (lv_at hl 4 rfl) ?_
                refine lv_iconst (v := (-1)) hx hb d_M_tick_143 (by decide) ?_
                obtain ⟨a_154, e_155, t_156, h⟩ := h
                obtain ⟨b_157, h⟩ := h
                obtain ⟨σ_158, z_159⟩ : ∃ y : ST, y = st_uI σ_143 a_154 (Int32.toNatClampNeg v4) ((-1)) := ⟨_, rfl⟩
                have h := h σ_158 z_159
                refine ms_iast (σ := σ_143) (r := (st_R σ_143 48 h0)) (a := a_154) (x := (-1)) hx hb hK hH hS e_155 t_156 rfl (cell_301 t_156)  b_157 d_M_tick_144 (σ1 := σ_158) (by rw [z_159]; exact uput_301 σ_143 a_154 _ ((-1)) t_156) (by rw [z_159]; rfl) (by rw [z_159]; rfl) (fun H locs hH hK hS => ?_)
                have t_160 : st_tg σ_158 h0 = some 1 := by rw [z_159]; exact t_145
                have t_161 : st_tg σ_158 a_4 = some 301 := by rw [z_159]; exact t_146
                have t_162 : st_tg σ_158 a_9 = some 302 := by rw [z_159]; exact t_147
                have t_163 : st_tg σ_158 a_92 = some 301 := by rw [z_159]; exact t_148
                have t_164 : st_tg σ_158 a_96 = some 302 := by rw [z_159]; exact t_149
                have t_165 : st_tg σ_158 a_100 = some 302 := by rw [z_159]; exact t_150
                have t_166 : st_tg σ_158 a_120 = some 302 := by rw [z_159]; exact t_151
                have t_167 : st_tg σ_158 a_124 = some 302 := by rw [z_159]; exact t_152
                have t_168 : st_tg σ_158 a_139 = some 301 := by rw [z_159]; exact t_153
                have t_169 : st_tg σ_158 a_154 = some 301 := by rw [z_159]; exact t_156
                obtain ⟨x_170, q_171⟩ : ∃ y : Int32, y = v3 + 1 := ⟨_, rfl⟩
                have h := h x_170 q_171
                refine lv_iinc (v := x_170) (lv' := [(3, .int x_170), (5, .int 0), (0, va_rf (some h0)), (1, .long v1), (4, .int v4)]) hx hb d_M_tick_145 hl (k := 3) rfl (by rw [q_171]; rfl) (by decide) rfl (fun ls hl => ?_)
                obtain ⟨x_172, q_173⟩ : ∃ y : Int32, y = v4 + 1 := ⟨_, rfl⟩
                have h := h x_172 q_173
                refine lv_iinc (v := x_172) (lv' := [(4, .int x_172), (3, .int x_170), (5, .int 0), (0, va_rf (some h0)), (1, .long v1)]) hx hb d_M_tick_148 hl (k := 4) rfl (by rw [q_173]; rfl) (by decide) rfl (fun ls hl => ?_)
                refine lv_goto (tgt := 14) hx hb d_M_tick_151 (by decide) ?_
                exact ih _ _ _ _ _ _ _ hH hK hS (lv_sub hl [3, 4, 1, 0] rfl) h
            · have h := h.2 c_104
              refine lv_iconst (v := 1) hx hb d_M_tick_79 (by decide) ?_
              refine lv_goto (tgt := 84) hx hb d_M_tick_80 (by decide) ?_
              refine lv_istore (lv' := [(5, .int 1), (0, va_rf (some h0)), (1, .long v1), (3, .int v3), (4, .int v4)]) hx hb d_M_tick_84 hl (by decide) rfl (fun ls hl => ?_)
              refine lv_iload hx hb d_M_tick_86 (lv_at hl 0 rfl) ?_
              refine lv_if_eq (tgt := 148) hx hb d_M_tick_88 (by decide) (fun c_174 => ?_) (fun c_174 => ?_)
              · have h := h.1 c_174
                obtain ⟨x_175, q_176⟩ : ∃ y : Int32, y = v4 + 1 := ⟨_, rfl⟩
                have h := h x_175 q_176
                refine lv_iinc (v := x_175) (lv' := [(4, .int x_175), (5, .int 1), (0, va_rf (some h0)), (1, .long v1), (3, .int v3)]) hx hb d_M_tick_148 hl (k := 4) rfl (by rw [q_176]; rfl) (by decide) rfl (fun ls hl => ?_)
                refine lv_goto (tgt := 14) hx hb d_M_tick_151 (by decide) ?_
                exact ih _ _ _ _ _ _ _ hH hK hS (lv_sub hl [2, 3, 4, 0] rfl) h
              · have h := h.2 c_174
                refine mr_aload_n hx hb d_M_tick_91 rfl (lv_at hl 1 rfl) ?_
                refine ms_get (σ := σ) (r := some h0) (a := h0) (fs := fl_1 σ h0) (ci := 1) (C := R_M) (T := T_M) (N := 32) hx hb hts in_1 hown hK hH rfl (cell_1 t_2) rfl 12 (by decide) (hts _ wd_429) (fun _ h9 => h9) (v := va_rf (st_R σ 52 h0)) rfl d_M_tick_92 ?_
                refine mr_aload_n hx hb d_M_tick_95 rfl (lv_at hl 1 rfl) ?_
                refine ms_get (σ := σ) (r := some h0) (a := h0) (fs := fl_1 σ h0) (ci := 1) (C := R_M) (T := T_M) (N := 32) hx hb hts in_1 hown hK hH rfl (cell_1 t_2) rfl 6 (by decide) (hts _ wd_423) (fun _ h9 => h9) (v := va_rf (st_R σ 46 h0)) rfl d_M_tick_96 ?_
                refine lv_iload hx hb d_M_tick_99 (lv_at hl 4 rfl) ?_
                obtain ⟨b_177, h⟩ := h
                refine ms_iald (σ := σ) (r := (st_R σ 46 h0)) (a := a_92) hx hb hK hH e_93 t_94 rfl (cell_301 t_94) b_177 d_M_tick_101 ?_
                refine lv_dup2_11 hx hb d_M_tick_102 rfl (cat_rf _) ?_
                obtain ⟨b_178, h⟩ := h
                refine ms_lald (σ := σ) (r := (st_R σ 52 h0)) (a := a_96) hx hb hK hH e_97 t_98 rfl (cell_302 t_98) b_178 d_M_tick_103 ?_
                refine mr_aload_n hx hb d_M_tick_104 rfl (lv_at hl 1 rfl) ?_
                refine ms_get (σ := σ) (r := some h0) (a := h0) (fs := fl_1 σ h0) (ci := 1) (C := R_M) (T := T_M) (N := 32) hx hb hts in_1 hown hK hH rfl (cell_1 t_2) rfl 2 (by decide) (hts _ wd_419) (fun _ h9 => h9) (v := va_rf (st_R σ 42 h0)) rfl d_M_tick_105 ?_
                refine lv_iload hx hb d_M_tick_108 (lv_at hl 4 rfl) ?_
                obtain ⟨b_179, h⟩ := h
                refine ms_lald (σ := σ) (r := (st_R σ 42 h0)) (a := a_100) hx hb hK hH e_101 t_102 rfl (cell_302 t_102) b_179 d_M_tick_110 ?_
                refine lv_lsub hx hb d_M_tick_111 ?_
                obtain ⟨b_180, h⟩ := h
                obtain ⟨σ_181, z_182⟩ : ∃ y : ST, y = st_uJ σ a_96 (Int32.toNatClampNeg ((st_eI σ a_92 (Int32.toNatClampNeg v4)))) ((((st_eJ σ a_96 (Int32.toNatClampNeg ((st_eI σ a_92 (Int32.toNatClampNeg v4)))))) - ((st_eJ σ a_100 (Int32.toNatClampNeg v4))))) := ⟨_, rfl⟩
                have h := h σ_181 z_182
                refine ms_last (σ := σ) (r := (st_R σ 52 h0)) (a := a_96) (x := (((st_eJ σ a_96 (Int32.toNatClampNeg ((st_eI σ a_92 (Int32.toNatClampNeg v4)))))) - ((st_eJ σ a_100 (Int32.toNatClampNeg v4))))) hx hb hK hH hS e_97 t_98 rfl (cell_302 t_98)  b_180 d_M_tick_112 (σ1 := σ_181) (by rw [z_182]; exact uput_302 σ a_96 _ ((((st_eJ σ a_96 (Int32.toNatClampNeg ((st_eI σ a_92 (Int32.toNatClampNeg v4)))))) - ((st_eJ σ a_100 (Int32.toNatClampNeg v4))))) t_98) (by rw [z_182]; rfl) (by rw [z_182]; rfl) (fun H locs hH hK hS => ?_)
                have t_183 : st_tg σ_181 h0 = some 1 := by rw [z_182]; exact t_2
                have t_184 : st_tg σ_181 a_4 = some 301 := by rw [z_182]; exact t_6
                have t_185 : st_tg σ_181 a_9 = some 302 := by rw [z_182]; exact t_11
                have t_186 : st_tg σ_181 a_92 = some 301 := by rw [z_182]; exact t_94
                have t_187 : st_tg σ_181 a_96 = some 302 := by rw [z_182]; exact t_98
                have t_188 : st_tg σ_181 a_100 = some 302 := by rw [z_182]; exact t_102
                refine mr_aload_n hx hb d_M_tick_113 rfl (lv_at hl 1 rfl) ?_
                refine ms_get (σ := σ_181) (r := some h0) (a := h0) (fs := fl_1 σ_181 h0) (ci := 1) (C := R_M) (T := T_M) (N := 32) hx hb hts in_1 hown hK hH rfl (cell_1 t_183) rfl 31 (by decide) (hts _ wd_448) (fun _ h9 => h9) (v := va_rf (st_R σ_181 71 h0)) rfl d_M_tick_114 ?_
                refine lv_iconst (v := 4) hx hb d_M_tick_117 (by decide) ?_
                refine lv_dup2_11 hx hb d_M_tick_118 rfl (cat_rf _) ?_
                obtain ⟨a_189, e_190, t_191, h⟩ := h
                obtain ⟨b_192, h⟩ := h
                refine ms_lald (σ := σ_181) (r := (st_R σ_181 71 h0)) (a := a_189) hx hb hK hH e_190 t_191 rfl (cell_302 t_191) b_192 d_M_tick_119 ?_
                refine mr_aload_n hx hb d_M_tick_120 rfl (lv_at hl 1 rfl) ?_
                refine ms_get (σ := σ_181) (r := some h0) (a := h0) (fs := fl_1 σ_181 h0) (ci := 1) (C := R_M) (T := T_M) (N := 32) hx hb hts in_1 hown hK hH rfl (cell_1 t_183) rfl 2 (by decide) (hts _ wd_419) (fun _ h9 => h9) (v := va_rf (st_R σ_181 42 h0)) rfl d_M_tick_121 ?_
                refine lv_iload hx hb d_M_tick_124 (lv_at hl 4 rfl) ?_
                obtain ⟨a_193, e_194, t_195, h⟩ := h
                obtain ⟨b_196, h⟩ := h
                refine ms_lald (σ := σ_181) (r := (st_R σ_181 42 h0)) (a := a_193) hx hb hK hH e_194 t_195 rfl (cell_302 t_195) b_196 d_M_tick_126 ?_
                refine lv_ladd hx hb d_M_tick_127 ?_
                obtain ⟨b_197, h⟩ := h
                obtain ⟨σ_198, z_199⟩ : ∃ y : ST, y = st_uJ σ_181 a_189 (Int32.toNatClampNeg 4) ((((st_eJ σ_181 a_189 (Int32.toNatClampNeg 4))) + ((st_eJ σ_181 a_193 (Int32.toNatClampNeg v4))))) := ⟨_, rfl⟩
                have h := h σ_198 z_199
                refine ms_last (σ := σ_181) (r := (st_R σ_181 71 h0)) (a := a_189) (x := (((st_eJ σ_181 a_189 (Int32.toNatClampNeg 4))) + ((st_eJ σ_181 a_193 (Int32.toNatClampNeg v4))))) hx hb hK hH hS e_190 t_191 rfl (cell_302 t_191)  b_197 d_M_tick_128 (σ1 := σ_198) (by rw [z_199]; exact uput_302 σ_181 a_189 _ ((((st_eJ σ_181 a_189 (Int32.toNatClampNeg 4))) + ((st_eJ σ_181 a_193 (Int32.toNatClampNeg v4))))) t_191) (by rw [z_199]; rfl) (by rw [z_199]; rfl) (fun H locs hH hK hS => ?_)
                have t_200 : st_tg σ_198 h0 = some 1 := by rw [z_199]; exact t_183
                have t_201 : st_tg σ_198 a_4 = some 301 := by rw [z_199]; exact t_184
                have t_202 : st_tg σ_198 a_9 = some 302 := by rw [z_199]; exact t_185
                have t_203 : st_tg σ_198 a_92 = some 301 := by rw [z_199]; exact t_186
                have t_204 : st_tg σ_198 a_96 = some 302 := by rw [z_199]; exact t_187
                have t_205 : st_tg σ_198 a_100 = some 302 := by rw [z_199]; exact t_188
                have t_206 : st_tg σ_198 a_189 = some 302 := by rw [z_199]; exact t_191
                have t_207 : st_tg σ_198 a_193 = some 302 := by rw [z_199]; exact t_195
                refine mr_aload_n hx hb d_M_tick_129 rfl (lv_at hl 1 rfl) ?_
                refine ms_get (σ := σ_198) (r := some h0) (a := h0) (fs := fl_1 σ_198 h0) (ci := 1) (C := R_M) (T := T_M) (N := 32) hx hb hts in_1 hown hK hH rfl (cell_1 t_200) rfl 1 (by decide) (hts _ wd_418) (fun _ h9 => h9) (v := va_rf (st_R σ_198 41 h0)) rfl d_M_tick_130 ?_
                refine lv_iload hx hb d_M_tick_133 (lv_at hl 4 rfl) ?_
                refine lv_iconst (v := 3) hx hb d_M_tick_135 (by decide) ?_
                obtain ⟨a_208, e_209, t_210, h⟩ := h
                obtain ⟨b_211, h⟩ := h
                obtain ⟨σ_212, z_213⟩ : ∃ y : ST, y = st_uI σ_198 a_208 (Int32.toNatClampNeg v4) 3 := ⟨_, rfl⟩
                have h := h σ_212 z_213
                refine ms_iast (σ := σ_198) (r := (st_R σ_198 41 h0)) (a := a_208) (x := 3) hx hb hK hH hS e_209 t_210 rfl (cell_301 t_210)  b_211 d_M_tick_136 (σ1 := σ_212) (by rw [z_213]; exact uput_301 σ_198 a_208 _ 3 t_210) (by rw [z_213]; rfl) (by rw [z_213]; rfl) (fun H locs hH hK hS => ?_)
                have t_214 : st_tg σ_212 h0 = some 1 := by rw [z_213]; exact t_200
                have t_215 : st_tg σ_212 a_4 = some 301 := by rw [z_213]; exact t_201
                have t_216 : st_tg σ_212 a_9 = some 302 := by rw [z_213]; exact t_202
                have t_217 : st_tg σ_212 a_92 = some 301 := by rw [z_213]; exact t_203
                have t_218 : st_tg σ_212 a_96 = some 302 := by rw [z_213]; exact t_204
                have t_219 : st_tg σ_212 a_100 = some 302 := by rw [z_213]; exact t_205
                have t_220 : st_tg σ_212 a_189 = some 302 := by rw [z_213]; exact t_206
                have t_221 : st_tg σ_212 a_193 = some 302 := by rw [z_213]; exact t_207
                have t_222 : st_tg σ_212 a_208 = some 301 := by rw [z_213]; exact t_210
                refine mr_aload_n hx hb d_M_tick_137 rfl (lv_at hl 1 rfl) ?_
                refine ms_get (σ := σ_212) (r := some h0) (a := h0) (fs := fl_1 σ_212 h0) (ci := 1) (C := R_M) (T := T_M) (N := 32) hx hb hts in_1 hown hK hH rfl (cell_1 t_214) rfl 8 (by decide) (hts _ wd_425) (fun _ h9 => h9) (v := va_rf (st_R σ_212 48 h0)) rfl d_M_tick_138 ?_
                refine lv_iload hx hb d_M_tick_141 (lv_at hl 4 rfl) ?_
                refine lv_iconst (v := (-1)) hx hb d_M_tick_143 (by decide) ?_
                obtain ⟨a_223, e_224, t_225, h⟩ := h
                obtain ⟨b_226, h⟩ := h
                obtain ⟨σ_227, z_228⟩ : ∃ y : ST, y = st_uI σ_212 a_223 (Int32.toNatClampNeg v4) ((-1)) := ⟨_, rfl⟩
                have h := h σ_227 z_228
                refine ms_iast (σ := σ_212) (r := (st_R σ_212 48 h0)) (a := a_223) (x := (-1)) hx hb hK hH hS e_224 t_225 rfl (cell_301 t_225)  b_226 d_M_tick_144 (σ1 := σ_227) (by rw [z_228]; exact uput_301 σ_212 a_223 _ ((-1)) t_225) (by rw [z_228]; rfl) (by rw [z_228]; rfl) (fun H locs hH hK hS => ?_)
                have t_229 : st_tg σ_227 h0 = some 1 := by rw [z_228]; exact t_214
                have t_230 : st_tg σ_227 a_4 = some 301 := by rw [z_228]; exact t_215
                have t_231 : st_tg σ_227 a_9 = some 302 := by rw [z_228]; exact t_216
                have t_232 : st_tg σ_227 a_92 = some 301 := by rw [z_228]; exact t_217
                have t_233 : st_tg σ_227 a_96 = some 302 := by rw [z_228]; exact t_218
                have t_234 : st_tg σ_227 a_100 = some 302 := by rw [z_228]; exact t_219
                have t_235 : st_tg σ_227 a_189 = some 302 := by rw [z_228]; exact t_220
                have t_236 : st_tg σ_227 a_193 = some 302 := by rw [z_228]; exact t_221
                have t_237 : st_tg σ_227 a_208 = some 301 := by rw [z_228]; exact t_222
                have t_238 : st_tg σ_227 a_223 = some 301 := by rw [z_228]; exact t_225
                obtain ⟨x_239, q_240⟩ : ∃ y : Int32, y = v3 + 1 := ⟨_, rfl⟩
                have h := h x_239 q_240
                refine lv_iinc (v := x_239) (lv' := [(3, .int x_239), (5, .int 1), (0, va_rf (some h0)), (1, .long v1), (4, .int v4)]) hx hb d_M_tick_145 hl (k := 3) rfl (by rw [q_240]; rfl) (by decide) rfl (fun ls hl => ?_)
                obtain ⟨x_241, q_242⟩ : ∃ y : Int32, y = v4 + 1 := ⟨_, rfl⟩
                have h := h x_241 q_242
                refine lv_iinc (v := x_241) (lv' := [(4, .int x_241), (3, .int x_239), (5, .int 1), (0, va_rf (some h0)), (1, .long v1)]) hx hb d_M_tick_148 hl (k := 4) rfl (by rw [q_242]; rfl) (by decide) rfl (fun ls hl => ?_)
                refine lv_goto (tgt := 14) hx hb d_M_tick_151 (by decide) ?_
                exact ih _ _ _ _ _ _ _ hH hK hS (lv_sub hl [3, 4, 1, 0] rfl) h
        · have h := h.2 c_8
          refine mr_aload_n hx hb d_M_tick_33 rfl (lv_at hl 0 rfl) ?_
          refine ms_get (σ := σ) (r := some h0) (a := h0) (fs := fl_1 σ h0) (ci := 1) (C := R_M) (T := T_M) (N := 32) hx hb hts in_1 hown hK hH rfl (cell_1 t_2) rfl 1 (by decide) (hts _ wd_418) (fun _ h9 => h9) (v := va_rf (st_R σ 41 h0)) rfl d_M_tick_34 ?_
          refine lv_iload hx hb d_M_tick_37 (lv_at hl 3 rfl) ?_
          obtain ⟨b_243, h⟩ := h
          refine ms_iald (σ := σ) (r := (st_R σ 41 h0)) (a := a_4) hx hb hK hH e_5 t_6 rfl (cell_301 t_6) b_243 d_M_tick_39 ?_
          refine lv_iconst (v := 2) hx hb d_M_tick_40 (by decide) ?_
          refine lv_icmp_ne (tgt := 83) hx hb d_M_tick_41 (by decide) (fun c_244 => ?_) (fun c_244 => ?_)
          · have h := h.1 c_244
            refine lv_iconst (v := 0) hx hb d_M_tick_83 (by decide) ?_
            refine lv_istore (lv' := [(5, .int 0), (0, va_rf (some h0)), (1, .long v1), (3, .int v3), (4, .int v4)]) hx hb d_M_tick_84 hl (by decide) rfl (fun ls hl => ?_)
            refine lv_iload hx hb d_M_tick_86 (lv_at hl 0 rfl) ?_
            refine lv_if_eq (tgt := 148) hx hb d_M_tick_88 (by decide) (fun c_245 => ?_) (fun c_245 => ?_)
            · have h := h.1 c_245
              obtain ⟨x_246, q_247⟩ : ∃ y : Int32, y = v4 + 1 := ⟨_, rfl⟩
              have h := h x_246 q_247
              refine lv_iinc (v := x_246) (lv' := [(4, .int x_246), (5, .int 0), (0, va_rf (some h0)), (1, .long v1), (3, .int v3)]) hx hb d_M_tick_148 hl (k := 4) rfl (by rw [q_247]; rfl) (by decide) rfl (fun ls hl => ?_)
              refine lv_goto (tgt := 14) hx hb d_M_tick_151 (by decide) ?_
              exact ih _ _ _ _ _ _ _ hH hK hS (lv_sub hl [2, 3, 4, 0] rfl) h
            · have h := h.2 c_245
              refine mr_aload_n hx hb d_M_tick_91 rfl (lv_at hl 1 rfl) ?_
              refine ms_get (σ := σ) (r := some h0) (a := h0) (fs := fl_1 σ h0) (ci := 1) (C := R_M) (T := T_M) (N := 32) hx hb hts in_1 hown hK hH rfl (cell_1 t_2) rfl 12 (by decide) (hts _ wd_429) (fun _ h9 => h9) (v := va_rf (st_R σ 52 h0)) rfl d_M_tick_92 ?_
              refine mr_aload_n hx hb d_M_tick_95 rfl (lv_at hl 1 rfl) ?_
              refine ms_get (σ := σ) (r := some h0) (a := h0) (fs := fl_1 σ h0) (ci := 1) (C := R_M) (T := T_M) (N := 32) hx hb hts in_1 hown hK hH rfl (cell_1 t_2) rfl 6 (by decide) (hts _ wd_423) (fun _ h9 => h9) (v := va_rf (st_R σ 46 h0)) rfl d_M_tick_96 ?_
              refine lv_iload hx hb d_M_tick_99 (lv_at hl 4 rfl) ?_
              obtain ⟨a_248, e_249, t_250, h⟩ := h
              obtain ⟨b_251, h⟩ := h
              refine ms_iald (σ := σ) (r := (st_R σ 46 h0)) (a := a_248) hx hb hK hH e_249 t_250 rfl (cell_301 t_250) b_251 d_M_tick_101 ?_
              refine lv_dup2_11 hx hb d_M_tick_102 rfl (cat_rf _) ?_
              obtain ⟨a_252, e_253, t_254, h⟩ := h
              obtain ⟨b_255, h⟩ := h
              refine ms_lald (σ := σ) (r := (st_R σ 52 h0)) (a := a_252) hx hb hK hH e_253 t_254 rfl (cell_302 t_254) b_255 d_M_tick_103 ?_
              refine mr_aload_n hx hb d_M_tick_104 rfl (lv_at hl 1 rfl) ?_
              refine ms_get (σ := σ) (r := some h0) (a := h0) (fs := fl_1 σ h0) (ci := 1) (C := R_M) (T := T_M) (N := 32) hx hb hts in_1 hown hK hH rfl (cell_1 t_2) rfl 2 (by decide) (hts _ wd_419) (fun _ h9 => h9) (v := va_rf (st_R σ 42 h0)) rfl d_M_tick_105 ?_
              refine lv_iload hx hb d_M_tick_108 (lv_at hl 4 rfl) ?_
              obtain ⟨a_256, e_257, t_258, h⟩ := h
              obtain ⟨b_259, h⟩ := h
              refine ms_lald (σ := σ) (r := (st_R σ 42 h0)) (a := a_256) hx hb hK hH e_257 t_258 rfl (cell_302 t_258) b_259 d_M_tick_110 ?_
              refine lv_lsub hx hb d_M_tick_111 ?_
              obtain ⟨b_260, h⟩ := h
              obtain ⟨σ_261, z_262⟩ : ∃ y : ST, y = st_uJ σ a_252 (Int32.toNatClampNeg ((st_eI σ a_248 (Int32.toNatClampNeg v4)))) ((((st_eJ σ a_252 (Int32.toNatClampNeg ((st_eI σ a_248 (Int32.toNatClampNeg v4)))))) - ((st_eJ σ a_256 (Int32.toNatClampNeg v4))))) := ⟨_, rfl⟩
              have h := h σ_261 z_262
              refine ms_last (σ := σ) (r := (st_R σ 52 h0)) (a := a_252) (x := (((st_eJ σ a_252 (Int32.toNatClampNeg ((st_eI σ a_248 (Int32.toNatClampNeg v4)))))) - ((st_eJ σ a_256 (Int32.toNatClampNeg v4))))) hx hb hK hH hS e_253 t_254 rfl (cell_302 t_254)  b_260 d_M_tick_112 (σ1 := σ_261) (by rw [z_262]; exact uput_302 σ a_252 _ ((((st_eJ σ a_252 (Int32.toNatClampNeg ((st_eI σ a_248 (Int32.toNatClampNeg v4)))))) - ((st_eJ σ a_256 (Int32.toNatClampNeg v4))))) t_254) (by rw [z_262]; rfl) (by rw [z_262]; rfl) (fun H locs hH hK hS => ?_)
              have t_263 : st_tg σ_261 h0 = some 1 := by rw [z_262]; exact t_2
              have t_264 : st_tg σ_261 a_4 = some 301 := by rw [z_262]; exact t_6
              have t_265 : st_tg σ_261 a_248 = some 301 := by rw [z_262]; exact t_250
              have t_266 : st_tg σ_261 a_252 = some 302 := by rw [z_262]; exact t_254
              have t_267 : st_tg σ_261 a_256 = some 302 := by rw [z_262]; exact t_258
              refine mr_aload_n hx hb d_M_tick_113 rfl (lv_at hl 1 rfl) ?_
              refine ms_get (σ := σ_261) (r := some h0) (a := h0) (fs := fl_1 σ_261 h0) (ci := 1) (C := R_M) (T := T_M) (N := 32) hx hb hts in_1 hown hK hH rfl (cell_1 t_263) rfl 31 (by decide) (hts _ wd_448) (fun _ h9 => h9) (v := va_rf (st_R σ_261 71 h0)) rfl d_M_tick_114 ?_
              refine lv_iconst (v := 4) hx hb d_M_tick_117 (by decide) ?_
              refine lv_dup2_11 hx hb d_M_tick_118 rfl (cat_rf _) ?_
              obtain ⟨a_268, e_269, t_270, h⟩ := h
              obtain ⟨b_271, h⟩ := h
              refine ms_lald (σ := σ_261) (r := (st_R σ_261 71 h0)) (a := a_268) hx hb hK hH e_269 t_270 rfl (cell_302 t_270) b_271 d_M_tick_119 ?_
              refine mr_aload_n hx hb d_M_tick_120 rfl (lv_at hl 1 rfl) ?_
              refine ms_get (σ := σ_261) (r := some h0) (a := h0) (fs := fl_1 σ_261 h0) (ci := 1) (C := R_M) (T := T_M) (N := 32) hx hb hts in_1 hown hK hH rfl (cell_1 t_263) rfl 2 (by decide) (hts _ wd_419) (fun _ h9 => h9) (v := va_rf (st_R σ_261 42 h0)) rfl d_M_tick_121 ?_
              refine lv_iload hx hb d_M_tick_124 (lv_at hl 4 rfl) ?_
              obtain ⟨a_272, e_273, t_274, h⟩ := h
              obtain ⟨b_275, h⟩ := h
              refine ms_lald (σ := σ_261) (r := (st_R σ_261 42 h0)) (a := a_272) hx hb hK hH e_273 t_274 rfl (cell_302 t_274) b_275 d_M_tick_126 ?_
              refine lv_ladd hx hb d_M_tick_127 ?_
              obtain ⟨b_276, h⟩ := h
              obtain ⟨σ_277, z_278⟩ : ∃ y : ST, y = st_uJ σ_261 a_268 (Int32.toNatClampNeg 4) ((((st_eJ σ_261 a_268 (Int32.toNatClampNeg 4))) + ((st_eJ σ_261 a_272 (Int32.toNatClampNeg v4))))) := ⟨_, rfl⟩
              have h := h σ_277 z_278
              refine ms_last (σ := σ_261) (r := (st_R σ_261 71 h0)) (a := a_268) (x := (((st_eJ σ_261 a_268 (Int32.toNatClampNeg 4))) + ((st_eJ σ_261 a_272 (Int32.toNatClampNeg v4))))) hx hb hK hH hS e_269 t_270 rfl (cell_302 t_270)  b_276 d_M_tick_128 (σ1 := σ_277) (by rw [z_278]; exact uput_302 σ_261 a_268 _ ((((st_eJ σ_261 a_268 (Int32.toNatClampNeg 4))) + ((st_eJ σ_261 a_272 (Int32.toNatClampNeg v4))))) t_270) (by rw [z_278]; rfl) (by rw [z_278]; rfl) (fun H locs hH hK hS => ?_)
              have t_279 : st_tg σ_277 h0 = some 1 := by rw [z_278]; exact t_263
              have t_280 : st_tg σ_277 a_4 = some 301 := by rw [z_278]; exact t_264
              have t_281 : st_tg σ_277 a_248 = some 301 := by rw [z_278]; exact t_265
              have t_282 : st_tg σ_277 a_252 = some 302 := by rw [z_278]; exact t_266
              have t_283 : st_tg σ_277 a_256 = some 302 := by rw [z_278]; exact t_267
              have t_284 : st_tg σ_277 a_268 = some 302 := by rw [z_278]; exact t_270
              have t_285 : st_tg σ_277 a_272 = some 302 := by rw [z_278]; exact t_274
              refine mr_aload_n hx hb d_M_tick_129 rfl (lv_at hl 1 rfl) ?_
              refine ms_get (σ := σ_277) (r := some h0) (a := h0) (fs := fl_1 σ_277 h0) (ci := 1) (C := R_M) (T := T_M) (N := 32) hx hb hts in_1 hown hK hH rfl (cell_1 t_279) rfl 1 (by decide) (hts _ wd_418) (fun _ h9 => h9) (v := va_rf (st_R σ_277 41 h0)) rfl d_M_tick_130 ?_
              refine lv_iload hx hb d_M_tick_133 (lv_at hl 4 rfl) ?_
              refine lv_iconst (v := 3) hx hb d_M_tick_135 (by decide) ?_
              obtain ⟨a_286, e_287, t_288, h⟩ := h
              obtain ⟨b_289, h⟩ := h
              obtain ⟨σ_290, z_291⟩ : ∃ y : ST, y = st_uI σ_277 a_286 (Int32.toNatClampNeg v4) 3 := ⟨_, rfl⟩
              have h := h σ_290 z_291
              refine ms_iast (σ := σ_277) (r := (st_R σ_277 41 h0)) (a := a_286) (x := 3) hx hb hK hH hS e_287 t_288 rfl (cell_301 t_288)  b_289 d_M_tick_136 (σ1 := σ_290) (by rw [z_291]; exact uput_301 σ_277 a_286 _ 3 t_288) (by rw [z_291]; rfl) (by rw [z_291]; rfl) (fun H locs hH hK hS => ?_)
              have t_292 : st_tg σ_290 h0 = some 1 := by rw [z_291]; exact t_279
              have t_293 : st_tg σ_290 a_4 = some 301 := by rw [z_291]; exact t_280
              have t_294 : st_tg σ_290 a_248 = some 301 := by rw [z_291]; exact t_281
              have t_295 : st_tg σ_290 a_252 = some 302 := by rw [z_291]; exact t_282
              have t_296 : st_tg σ_290 a_256 = some 302 := by rw [z_291]; exact t_283
              have t_297 : st_tg σ_290 a_268 = some 302 := by rw [z_291]; exact t_284
              have t_298 : st_tg σ_290 a_272 = some 302 := by rw [z_291]; exact t_285
              have t_299 : st_tg σ_290 a_286 = some 301 := by rw [z_291]; exact t_288
              refine mr_aload_n hx hb d_M_tick_137 rfl (lv_at hl 1 rfl) ?_
              refine ms_get (σ := σ_290) (r := some h0) (a := h0) (fs := fl_1 σ_290 h0) (ci := 1) (C := R_M) (T := T_M) (N := 32) hx hb hts in_1 hown hK hH rfl (cell_1 t_292) rfl 8 (by decide) (hts _ wd_425) (fun _ h9 => h9) (v := va_rf (st_R σ_290 48 h0)) rfl d_M_tick_138 ?_
              refine lv_iload hx hb d_M_tick_141 (lv_at hl 4 rfl) ?_
              refine lv_iconst (v := (-1)) hx hb d_M_tick_143 (by decide) ?_
              obtain ⟨a_300, e_301, t_302, h⟩ := h
              obtain ⟨b_303, h⟩ := h
              obtain ⟨σ_304, z_305⟩ : ∃ y : ST, y = st_uI σ_290 a_300 (Int32.toNatClampNeg v4) ((-1)) := ⟨_, rfl⟩
              have h := h σ_304 z_305
              refine ms_iast (σ := σ_290) (r := (st_R σ_290 48 h0)) (a := a_300) (x := (-1)) hx hb hK hH hS e_301 t_302 rfl (cell_301 t_302)  b_303 d_M_tick_144 (σ1 := σ_304) (by rw [z_305]; exact uput_301 σ_290 a_300 _ ((-1)) t_302) (by rw [z_305]; rfl) (by rw [z_305]; rfl) (fun H locs hH hK hS => ?_)
              have t_306 : st_tg σ_304 h0 = some 1 := by rw [z_305]; exact t_292
              have t_307 : st_tg σ_304 a_4 = some 301 := by rw [z_305]; exact t_293
              have t_308 : st_tg σ_304 a_248 = some 301 := by rw [z_305]; exact t_294
              have t_309 : st_tg σ_304 a_252 = some 302 := by rw [z_305]; exact t_295
              have t_310 : st_tg σ_304 a_256 = some 302 := by rw [z_305]; exact t_296
              have t_311 : st_tg σ_304 a_268 = some 302 := by rw [z_305]; exact t_297
              have t_312 : st_tg σ_304 a_272 = some 302 := by rw [z_305]; exact t_298
              have t_313 : st_tg σ_304 a_286 = some 301 := by rw [z_305]; exact t_299
              have t_314 : st_tg σ_304 a_300 = some 301 := by rw [z_305]; exact t_302
              obtain ⟨x_315, q_316⟩ : ∃ y : Int32, y = v3 + 1 := ⟨_, rfl⟩
              have h := h x_315 q_316
              refine lv_iinc (v := x_315) (lv' := [(3, .int x_315), (5, .int 0), (0, va_rf (some h0)), (1, .long v1), (4, .int v4)]) hx hb d_M_tick_145 hl (k := 3) rfl (by rw [q_316]; rfl) (by decide) rfl (fun ls hl => ?_)
              obtain ⟨x_317, q_318⟩ : ∃ y : Int32, y = v4 + 1 := ⟨_, rfl⟩
              have h := h x_317 q_318
              refine lv_iinc (v := x_317) (lv' := [(4, .int x_317), (3, .int x_315), (5, .int 0), (0, va_rf (some h0)), (1, .long v1)]) hx hb d_M_tick_148 hl (k := 4) rfl (by rw [q_318]; rfl) (by decide) rfl (fun ls hl => ?_)
              refine lv_goto (tgt := 14) hx hb d_M_tick_151 (by decide) ?_
              exact ih _ _ _ _ _ _ _ hH hK hS (lv_sub hl [3, 4, 1, 0] rfl) h
          · have h := h.2 c_244
            refine mr_aload_n hx hb d_M_tick_44 rfl (lv_at hl 0 rfl) ?_
            refine ms_get (σ := σ) (r := some h0) (a := h0) (fs := fl_1 σ h0) (ci := 1) (C := R_M) (T := T_M) (N := 32) hx hb hts in_1 hown hK hH rfl (cell_1 t_2) rfl 3 (by decide) (hts _ wd_420) (fun _ h9 => h9) (v := va_rf (st_R σ 43 h0)) rfl d_M_tick_45 ?_
            refine lv_iload hx hb d_M_tick_48 (lv_at hl 3 rfl) ?_
            obtain ⟨a_319, e_320, t_321, h⟩ := h
            obtain ⟨b_322, h⟩ := h
            refine ms_lald (σ := σ) (r := (st_R σ 43 h0)) (a := a_319) hx hb hK hH e_320 t_321 rfl (cell_302 t_321) b_322 d_M_tick_50 ?_
            refine lv_lload_n hx hb d_M_tick_51 rfl (lv_at hl 1 rfl) ?_
            refine W.lcmp hx hb d_M_tick_52 ?_
            refine lv_if_ge (tgt := 83) hx hb d_M_tick_53 (by decide) (fun c_323 => ?_) (fun c_323 => ?_)
            · have h := h.1 c_323
              refine lv_iconst (v := 0) hx hb d_M_tick_83 (by decide) ?_
              refine lv_istore (lv' := [(5, .int 0), (0, va_rf (some h0)), (1, .long v1), (3, .int v3), (4, .int v4)]) hx hb d_M_tick_84 hl (by decide) rfl (fun ls hl => ?_)
              refine lv_iload hx hb d_M_tick_86 (lv_at hl 0 rfl) ?_
              refine lv_if_eq (tgt := 148) hx hb d_M_tick_88 (by decide) (fun c_324 => ?_) (fun c_324 => ?_)
              · have h := h.1 c_324
                obtain ⟨x_325, q_326⟩ : ∃ y : Int32, y = v4 + 1 := ⟨_, rfl⟩
                have h := h x_325 q_326
                refine lv_iinc (v := x_325) (lv' := [(4, .int x_325), (5, .int 0), (0, va_rf (some h0)), (1, .long v1), (3, .int v3)]) hx hb d_M_tick_148 hl (k := 4) rfl (by rw [q_326]; rfl) (by decide) rfl (fun ls hl => ?_)
                refine lv_goto (tgt := 14) hx hb d_M_tick_151 (by decide) ?_
                exact ih _ _ _ _ _ _ _ hH hK hS (lv_sub hl [2, 3, 4, 0] rfl) h
              · have h := h.2 c_324
                refine mr_aload_n hx hb d_M_tick_91 rfl (lv_at hl 1 rfl) ?_
                refine ms_get (σ := σ) (r := some h0) (a := h0) (fs := fl_1 σ h0) (ci := 1) (C := R_M) (T := T_M) (N := 32) hx hb hts in_1 hown hK hH rfl (cell_1 t_2) rfl 12 (by decide) (hts _ wd_429) (fun _ h9 => h9) (v := va_rf (st_R σ 52 h0)) rfl d_M_tick_92 ?_
                refine mr_aload_n hx hb d_M_tick_95 rfl (lv_at hl 1 rfl) ?_
                refine ms_get (σ := σ) (r := some h0) (a := h0) (fs := fl_1 σ h0) (ci := 1) (C := R_M) (T := T_M) (N := 32) hx hb hts in_1 hown hK hH rfl (cell_1 t_2) rfl 6 (by decide) (hts _ wd_423) (fun _ h9 => h9) (v := va_rf (st_R σ 46 h0)) rfl d_M_tick_96 ?_
                refine lv_iload hx hb d_M_tick_99 (lv_at hl 4 rfl) ?_
                obtain ⟨a_327, e_328, t_329, h⟩ := h
                obtain ⟨b_330, h⟩ := h
                refine ms_iald (σ := σ) (r := (st_R σ 46 h0)) (a := a_327) hx hb hK hH e_328 t_329 rfl (cell_301 t_329) b_330 d_M_tick_101 ?_
                refine lv_dup2_11 hx hb d_M_tick_102 rfl (cat_rf _) ?_
                obtain ⟨a_331, e_332, t_333, h⟩ := h
                obtain ⟨b_334, h⟩ := h
                refine ms_lald (σ := σ) (r := (st_R σ 52 h0)) (a := a_331) hx hb hK hH e_332 t_333 rfl (cell_302 t_333) b_334 d_M_tick_103 ?_
                refine mr_aload_n hx hb d_M_tick_104 rfl (lv_at hl 1 rfl) ?_
                refine ms_get (σ := σ) (r := some h0) (a := h0) (fs := fl_1 σ h0) (ci := 1) (C := R_M) (T := T_M) (N := 32) hx hb hts in_1 hown hK hH rfl (cell_1 t_2) rfl 2 (by decide) (hts _ wd_419) (fun _ h9 => h9) (v := va_rf (st_R σ 42 h0)) rfl d_M_tick_105 ?_
                refine lv_iload hx hb d_M_tick_108 (lv_at hl 4 rfl) ?_
                obtain ⟨a_335, e_336, t_337, h⟩ := h
                obtain ⟨b_338, h⟩ := h
                refine ms_lald (σ := σ) (r := (st_R σ 42 h0)) (a := a_335) hx hb hK hH e_336 t_337 rfl (cell_302 t_337) b_338 d_M_tick_110 ?_
                refine lv_lsub hx hb d_M_tick_111 ?_
                obtain ⟨b_339, h⟩ := h
                obtain ⟨σ_340, z_341⟩ : ∃ y : ST, y = st_uJ σ a_331 (Int32.toNatClampNeg ((st_eI σ a_327 (Int32.toNatClampNeg v4)))) ((((st_eJ σ a_331 (Int32.toNatClampNeg ((st_eI σ a_327 (Int32.toNatClampNeg v4)))))) - ((st_eJ σ a_335 (Int32.toNatClampNeg v4))))) := ⟨_, rfl⟩
                have h := h σ_340 z_341
                refine ms_last (σ := σ) (r := (st_R σ 52 h0)) (a := a_331) (x := (((st_eJ σ a_331 (Int32.toNatClampNeg ((st_eI σ a_327 (Int32.toNatClampNeg v4)))))) - ((st_eJ σ a_335 (Int32.toNatClampNeg v4))))) hx hb hK hH hS e_332 t_333 rfl (cell_302 t_333)  b_339 d_M_tick_112 (σ1 := σ_340) (by rw [z_341]; exact uput_302 σ a_331 _ ((((st_eJ σ a_331 (Int32.toNatClampNeg ((st_eI σ a_327 (Int32.toNatClampNeg v4)))))) - ((st_eJ σ a_335 (Int32.toNatClampNeg v4))))) t_333) (by rw [z_341]; rfl) (by rw [z_341]; rfl) (fun H locs hH hK hS => ?_)
                have t_342 : st_tg σ_340 h0 = some 1 := by rw [z_341]; exact t_2
                have t_343 : st_tg σ_340 a_4 = some 301 := by rw [z_341]; exact t_6
                have t_344 : st_tg σ_340 a_319 = some 302 := by rw [z_341]; exact t_321
                have t_345 : st_tg σ_340 a_327 = some 301 := by rw [z_341]; exact t_329
                have t_346 : st_tg σ_340 a_331 = some 302 := by rw [z_341]; exact t_333
                have t_347 : st_tg σ_340 a_335 = some 302 := by rw [z_341]; exact t_337
                refine mr_aload_n hx hb d_M_tick_113 rfl (lv_at hl 1 rfl) ?_
                refine ms_get (σ := σ_340) (r := some h0) (a := h0) (fs := fl_1 σ_340 h0) (ci := 1) (C := R_M) (T := T_M) (N := 32) hx hb hts in_1 hown hK hH rfl (cell_1 t_342) rfl 31 (by decide) (hts _ wd_448) (fun _ h9 => h9) (v := va_rf (st_R σ_340 71 h0)) rfl d_M_tick_114 ?_
                refine lv_iconst (v := 4) hx hb d_M_tick_117 (by decide) ?_
                refine lv_dup2_11 hx hb d_M_tick_118 rfl (cat_rf _) ?_
                obtain ⟨a_348, e_349, t_350, h⟩ := h
                obtain ⟨b_351, h⟩ := h
                refine ms_lald (σ := σ_340) (r := (st_R σ_340 71 h0)) (a := a_348) hx hb hK hH e_349 t_350 rfl (cell_302 t_350) b_351 d_M_tick_119 ?_
                refine mr_aload_n hx hb d_M_tick_120 rfl (lv_at hl 1 rfl) ?_
                refine ms_get (σ := σ_340) (r := some h0) (a := h0) (fs := fl_1 σ_340 h0) (ci := 1) (C := R_M) (T := T_M) (N := 32) hx hb hts in_1 hown hK hH rfl (cell_1 t_342) rfl 2 (by decide) (hts _ wd_419) (fun _ h9 => h9) (v := va_rf (st_R σ_340 42 h0)) rfl d_M_tick_121 ?_
                refine lv_iload hx hb d_M_tick_124 (lv_at hl 4 rfl) ?_
                obtain ⟨a_352, e_353, t_354, h⟩ := h
                obtain ⟨b_355, h⟩ := h
                refine ms_lald (σ := σ_340) (r := (st_R σ_340 42 h0)) (a := a_352) hx hb hK hH e_353 t_354 rfl (cell_302 t_354) b_355 d_M_tick_126 ?_
                refine lv_ladd hx hb d_M_tick_127 ?_
                obtain ⟨b_356, h⟩ := h
                obtain ⟨σ_357, z_358⟩ : ∃ y : ST, y = st_uJ σ_340 a_348 (Int32.toNatClampNeg 4) ((((st_eJ σ_340 a_348 (Int32.toNatClampNeg 4))) + ((st_eJ σ_340 a_352 (Int32.toNatClampNeg v4))))) := ⟨_, rfl⟩
                have h := h σ_357 z_358
                refine ms_last (σ := σ_340) (r := (st_R σ_340 71 h0)) (a := a_348) (x := (((st_eJ σ_340 a_348 (Int32.toNatClampNeg 4))) + ((st_eJ σ_340 a_352 (Int32.toNatClampNeg v4))))) hx hb hK hH hS e_349 t_350 rfl (cell_302 t_350)  b_356 d_M_tick_128 (σ1 := σ_357) (by rw [z_358]; exact uput_302 σ_340 a_348 _ ((((st_eJ σ_340 a_348 (Int32.toNatClampNeg 4))) + ((st_eJ σ_340 a_352 (Int32.toNatClampNeg v4))))) t_350) (by rw [z_358]; rfl) (by rw [z_358]; rfl) (fun H locs hH hK hS => ?_)
                have t_359 : st_tg σ_357 h0 = some 1 := by rw [z_358]; exact t_342
                have t_360 : st_tg σ_357 a_4 = some 301 := by rw [z_358]; exact t_343
                have t_361 : st_tg σ_357 a_319 = some 302 := by rw [z_358]; exact t_344
                have t_362 : st_tg σ_357 a_327 = some 301 := by rw [z_358]; exact t_345
                have t_363 : st_tg σ_357 a_331 = some 302 := by rw [z_358]; exact t_346
                have t_364 : st_tg σ_357 a_335 = some 302 := by rw [z_358]; exact t_347
                have t_365 : st_tg σ_357 a_348 = some 302 := by rw [z_358]; exact t_350
                have t_366 : st_tg σ_357 a_352 = some 302 := by rw [z_358]; exact t_354
                refine mr_aload_n hx hb d_M_tick_129 rfl (lv_at hl 1 rfl) ?_
                refine ms_get (σ := σ_357) (r := some h0) (a := h0) (fs := fl_1 σ_357 h0) (ci := 1) (C := R_M) (T := T_M) (N := 32) hx hb hts in_1 hown hK hH rfl (cell_1 t_359) rfl 1 (by decide) (hts _ wd_418) (fun _ h9 => h9) (v := va_rf (st_R σ_357 41 h0)) rfl d_M_tick_130 ?_
                refine lv_iload hx hb d_M_tick_133 (lv_at hl 4 rfl) ?_
                refine lv_iconst (v := 3) hx hb d_M_tick_135 (by decide) ?_
                obtain ⟨a_367, e_368, t_369, h⟩ := h
                obtain ⟨b_370, h⟩ := h
                obtain ⟨σ_371, z_372⟩ : ∃ y : ST, y = st_uI σ_357 a_367 (Int32.toNatClampNeg v4) 3 := ⟨_, rfl⟩
                have h := h σ_371 z_372
                refine ms_iast (σ := σ_357) (r := (st_R σ_357 41 h0)) (a := a_367) (x := 3) hx hb hK hH hS e_368 t_369 rfl (cell_301 t_369)  b_370 d_M_tick_136 (σ1 := σ_371) (by rw [z_372]; exact uput_301 σ_357 a_367 _ 3 t_369) (by rw [z_372]; rfl) (by rw [z_372]; rfl) (fun H locs hH hK hS => ?_)
                have t_373 : st_tg σ_371 h0 = some 1 := by rw [z_372]; exact t_359
                have t_374 : st_tg σ_371 a_4 = some 301 := by rw [z_372]; exact t_360
                have t_375 : st_tg σ_371 a_319 = some 302 := by rw [z_372]; exact t_361
                have t_376 : st_tg σ_371 a_327 = some 301 := by rw [z_372]; exact t_362
                have t_377 : st_tg σ_371 a_331 = some 302 := by rw [z_372]; exact t_363
                have t_378 : st_tg σ_371 a_335 = some 302 := by rw [z_372]; exact t_364
                have t_379 : st_tg σ_371 a_348 = some 302 := by rw [z_372]; exact t_365
                have t_380 : st_tg σ_371 a_352 = some 302 := by rw [z_372]; exact t_366
                have t_381 : st_tg σ_371 a_367 = some 301 := by rw [z_372]; exact t_369
                refine mr_aload_n hx hb d_M_tick_137 rfl (lv_at hl 1 rfl) ?_
                refine ms_get (σ := σ_371) (r := some h0) (a := h0) (fs := fl_1 σ_371 h0) (ci := 1) (C := R_M) (T := T_M) (N := 32) hx hb hts in_1 hown hK hH rfl (cell_1 t_373) rfl 8 (by decide) (hts _ wd_425) (fun _ h9 => h9) (v := va_rf (st_R σ_371 48 h0)) rfl d_M_tick_138 ?_
                refine lv_iload hx hb d_M_tick_141 (lv_at hl 4 rfl) ?_
                refine lv_iconst (v := (-1)) hx hb d_M_tick_143 (by decide) ?_
                obtain ⟨a_382, e_383, t_384, h⟩ := h
                obtain ⟨b_385, h⟩ := h
                obtain ⟨σ_386, z_387⟩ : ∃ y : ST, y = st_uI σ_371 a_382 (Int32.toNatClampNeg v4) ((-1)) := ⟨_, rfl⟩
                have h := h σ_386 z_387
                refine ms_iast (σ := σ_371) (r := (st_R σ_371 48 h0)) (a := a_382) (x := (-1)) hx hb hK hH hS e_383 t_384 rfl (cell_301 t_384)  b_385 d_M_tick_144 (σ1 := σ_386) (by rw [z_387]; exact uput_301 σ_371 a_382 _ ((-1)) t_384) (by rw [z_387]; rfl) (by rw [z_387]; rfl) (fun H locs hH hK hS => ?_)
                have t_388 : st_tg σ_386 h0 = some 1 := by rw [z_387]; exact t_373
                have t_389 : st_tg σ_386 a_4 = some 301 := by rw [z_387]; exact t_374
                have t_390 : st_tg σ_386 a_319 = some 302 := by rw [z_387]; exact t_375
                have t_391 : st_tg σ_386 a_327 = some 301 := by rw [z_387]; exact t_376
                have t_392 : st_tg σ_386 a_331 = some 302 := by rw [z_387]; exact t_377
                have t_393 : st_tg σ_386 a_335 = some 302 := by rw [z_387]; exact t_378
                have t_394 : st_tg σ_386 a_348 = some 302 := by rw [z_387]; exact t_379
                have t_395 : st_tg σ_386 a_352 = some 302 := by rw [z_387]; exact t_380
                have t_396 : st_tg σ_386 a_367 = some 301 := by rw [z_387]; exact t_381
                have t_397 : st_tg σ_386 a_382 = some 301 := by rw [z_387]; exact t_384
                obtain ⟨x_398, q_399⟩ : ∃ y : Int32, y = v3 + 1 := ⟨_, rfl⟩
                have h := h x_398 q_399
                refine lv_iinc (v := x_398) (lv' := [(3, .int x_398), (5, .int 0), (0, va_rf (some h0)), (1, .long v1), (4, .int v4)]) hx hb d_M_tick_145 hl (k := 3) rfl (by rw [q_399]; rfl) (by decide) rfl (fun ls hl => ?_)
                obtain ⟨x_400, q_401⟩ : ∃ y : Int32, y = v4 + 1 := ⟨_, rfl⟩
                have h := h x_400 q_401
                refine lv_iinc (v := x_400) (lv' := [(4, .int x_400), (3, .int x_398), (5, .int 0), (0, va_rf (some h0)), (1, .long v1)]) hx hb d_M_tick_148 hl (k := 4) rfl (by rw [q_401]; rfl) (by decide) rfl (fun ls hl => ?_)
                refine lv_goto (tgt := 14) hx hb d_M_tick_151 (by decide) ?_
                exact ih _ _ _ _ _ _ _ hH hK hS (lv_sub hl [3, 4, 1, 0] rfl) h
            · have h := h.2 c_323
              refine mr_aload_n hx hb d_M_tick_56 rfl (lv_at hl 0 rfl) ?_
              refine ms_get (σ := σ) (r := some h0) (a := h0) (fs := fl_1 σ h0) (ci := 1) (C := R_M) (T := T_M) (N := 32) hx hb hts in_1 hown hK hH rfl (cell_1 t_2) rfl 12 (by decide) (hts _ wd_429) (fun _ h9 => h9) (v := va_rf (st_R σ 52 h0)) rfl d_M_tick_57 ?_
              refine mr_aload_n hx hb d_M_tick_60 rfl (lv_at hl 0 rfl) ?_
              refine ms_get (σ := σ) (r := some h0) (a := h0) (fs := fl_1 σ h0) (ci := 1) (C := R_M) (T := T_M) (N := 32) hx hb hts in_1 hown hK hH rfl (cell_1 t_2) rfl 6 (by decide) (hts _ wd_423) (fun _ h9 => h9) (v := va_rf (st_R σ 46 h0)) rfl d_M_tick_61 ?_
              refine lv_iload hx hb d_M_tick_64 (lv_at hl 3 rfl) ?_
              obtain ⟨a_402, e_403, t_404, h⟩ := h
              obtain ⟨b_405, h⟩ := h
              refine ms_iald (σ := σ) (r := (st_R σ 46 h0)) (a := a_402) hx hb hK hH e_403 t_404 rfl (cell_301 t_404) b_405 d_M_tick_66 ?_
              obtain ⟨a_406, e_407, t_408, h⟩ := h
              obtain ⟨b_409, h⟩ := h
              refine ms_lald (σ := σ) (r := (st_R σ 52 h0)) (a := a_406) hx hb hK hH e_407 t_408 rfl (cell_302 t_408) b_409 d_M_tick_67 ?_
              refine mr_aload_n hx hb d_M_tick_68 rfl (lv_at hl 0 rfl) ?_
              refine ms_get (σ := σ) (r := some h0) (a := h0) (fs := fl_1 σ h0) (ci := 1) (C := R_M) (T := T_M) (N := 32) hx hb hts in_1 hown hK hH rfl (cell_1 t_2) rfl 2 (by decide) (hts _ wd_419) (fun _ h9 => h9) (v := va_rf (st_R σ 42 h0)) rfl d_M_tick_69 ?_
              refine lv_iload hx hb d_M_tick_72 (lv_at hl 3 rfl) ?_
              obtain ⟨a_410, e_411, t_412, h⟩ := h
              obtain ⟨b_413, h⟩ := h
              refine ms_lald (σ := σ) (r := (st_R σ 42 h0)) (a := a_410) hx hb hK hH e_411 t_412 rfl (cell_302 t_412) b_413 d_M_tick_74 ?_
              refine W.lcmp hx hb d_M_tick_75 ?_
              refine lv_if_lt (tgt := 83) hx hb d_M_tick_76 (by decide) (fun c_414 => ?_) (fun c_414 => ?_)
              · have h := h.1 c_414
                refine lv_iconst (v := 0) hx hb d_M_tick_83 (by decide) ?_
                refine lv_istore (lv' := [(5, .int 0), (0, va_rf (some h0)), (1, .long v1), (3, .int v3), (4, .int v4)]) hx hb d_M_tick_84 hl (by decide) rfl (fun ls hl => ?_)
                refine lv_iload hx hb d_M_tick_86 (lv_at hl 0 rfl) ?_
                refine lv_if_eq (tgt := 148) hx hb d_M_tick_88 (by decide) (fun c_415 => ?_) (fun c_415 => ?_)
                · have h := h.1 c_415
                  obtain ⟨x_416, q_417⟩ : ∃ y : Int32, y = v4 + 1 := ⟨_, rfl⟩
                  have h := h x_416 q_417
                  refine lv_iinc (v := x_416) (lv' := [(4, .int x_416), (5, .int 0), (0, va_rf (some h0)), (1, .long v1), (3, .int v3)]) hx hb d_M_tick_148 hl (k := 4) rfl (by rw [q_417]; rfl) (by decide) rfl (fun ls hl => ?_)
                  refine lv_goto (tgt := 14) hx hb d_M_tick_151 (by decide) ?_
                  exact ih _ _ _ _ _ _ _ hH hK hS (lv_sub hl [2, 3, 4, 0] rfl) h
                · have h := h.2 c_415
                  refine mr_aload_n hx hb d_M_tick_91 rfl (lv_at hl 1 rfl) ?_
                  refine ms_get (σ := σ) (r := some h0) (a := h0) (fs := fl_1 σ h0) (ci := 1) (C := R_M) (T := T_M) (N := 32) hx hb hts in_1 hown hK hH rfl (cell_1 t_2) rfl 12 (by decide) (hts _ wd_429) (fun _ h9 => h9) (v := va_rf (st_R σ 52 h0)) rfl d_M_tick_92 ?_
                  refine mr_aload_n hx hb d_M_tick_95 rfl (lv_at hl 1 rfl) ?_
                  refine ms_get (σ := σ) (r := some h0) (a := h0) (fs := fl_1 σ h0) (ci := 1) (C := R_M) (T := T_M) (N := 32) hx hb hts in_1 hown hK hH rfl (cell_1 t_2) rfl 6 (by decide) (hts _ wd_423) (fun _ h9 => h9) (v := va_rf (st_R σ 46 h0)) rfl d_M_tick_96 ?_
                  refine lv_iload hx hb d_M_tick_99 (lv_at hl 4 rfl) ?_
                  obtain ⟨b_418, h⟩ := h
                  refine ms_iald (σ := σ) (r := (st_R σ 46 h0)) (a := a_402) hx hb hK hH e_403 t_404 rfl (cell_301 t_404) b_418 d_M_tick_101 ?_
                  refine lv_dup2_11 hx hb d_M_tick_102 rfl (cat_rf _) ?_
                  obtain ⟨b_419, h⟩ := h
                  refine ms_lald (σ := σ) (r := (st_R σ 52 h0)) (a := a_406) hx hb hK hH e_407 t_408 rfl (cell_302 t_408) b_419 d_M_tick_103 ?_
                  refine mr_aload_n hx hb d_M_tick_104 rfl (lv_at hl 1 rfl) ?_
                  refine ms_get (σ := σ) (r := some h0) (a := h0) (fs := fl_1 σ h0) (ci := 1) (C := R_M) (T := T_M) (N := 32) hx hb hts in_1 hown hK hH rfl (cell_1 t_2) rfl 2 (by decide) (hts _ wd_419) (fun _ h9 => h9) (v := va_rf (st_R σ 42 h0)) rfl d_M_tick_105 ?_
                  refine lv_iload hx hb d_M_tick_108 (lv_at hl 4 rfl) ?_
                  obtain ⟨b_420, h⟩ := h
                  refine ms_lald (σ := σ) (r := (st_R σ 42 h0)) (a := a_410) hx hb hK hH e_411 t_412 rfl (cell_302 t_412) b_420 d_M_tick_110 ?_
                  refine lv_lsub hx hb d_M_tick_111 ?_
                  obtain ⟨b_421, h⟩ := h
                  obtain ⟨σ_422, z_423⟩ : ∃ y : ST, y = st_uJ σ a_406 (Int32.toNatClampNeg ((st_eI σ a_402 (Int32.toNatClampNeg v4)))) ((((st_eJ σ a_406 (Int32.toNatClampNeg ((st_eI σ a_402 (Int32.toNatClampNeg v4)))))) - ((st_eJ σ a_410 (Int32.toNatClampNeg v4))))) := ⟨_, rfl⟩
                  have h := h σ_422 z_423
                  refine ms_last (σ := σ) (r := (st_R σ 52 h0)) (a := a_406) (x := (((st_eJ σ a_406 (Int32.toNatClampNeg ((st_eI σ a_402 (Int32.toNatClampNeg v4)))))) - ((st_eJ σ a_410 (Int32.toNatClampNeg v4))))) hx hb hK hH hS e_407 t_408 rfl (cell_302 t_408)  b_421 d_M_tick_112 (σ1 := σ_422) (by rw [z_423]; exact uput_302 σ a_406 _ ((((st_eJ σ a_406 (Int32.toNatClampNeg ((st_eI σ a_402 (Int32.toNatClampNeg v4)))))) - ((st_eJ σ a_410 (Int32.toNatClampNeg v4))))) t_408) (by rw [z_423]; rfl) (by rw [z_423]; rfl) (fun H locs hH hK hS => ?_)
                  have t_424 : st_tg σ_422 h0 = some 1 := by rw [z_423]; exact t_2
                  have t_425 : st_tg σ_422 a_4 = some 301 := by rw [z_423]; exact t_6
                  have t_426 : st_tg σ_422 a_319 = some 302 := by rw [z_423]; exact t_321
                  have t_427 : st_tg σ_422 a_402 = some 301 := by rw [z_423]; exact t_404
                  have t_428 : st_tg σ_422 a_406 = some 302 := by rw [z_423]; exact t_408
                  have t_429 : st_tg σ_422 a_410 = some 302 := by rw [z_423]; exact t_412
                  refine mr_aload_n hx hb d_M_tick_113 rfl (lv_at hl 1 rfl) ?_
                  refine ms_get (σ := σ_422) (r := some h0) (a := h0) (fs := fl_1 σ_422 h0) (ci := 1) (C := R_M) (T := T_M) (N := 32) hx hb hts in_1 hown hK hH rfl (cell_1 t_424) rfl 31 (by decide) (hts _ wd_448) (fun _ h9 => h9) (v := va_rf (st_R σ_422 71 h0)) rfl d_M_tick_114 ?_
                  refine lv_iconst (v := 4) hx hb d_M_tick_117 (by decide) ?_
                  refine lv_dup2_11 hx hb d_M_tick_118 rfl (cat_rf _) ?_
                  obtain ⟨a_430, e_431, t_432, h⟩ := h
                  obtain ⟨b_433, h⟩ := h
                  refine ms_lald (σ := σ_422) (r := (st_R σ_422 71 h0)) (a := a_430) hx hb hK hH e_431 t_432 rfl (cell_302 t_432) b_433 d_M_tick_119 ?_
                  refine mr_aload_n hx hb d_M_tick_120 rfl (lv_at hl 1 rfl) ?_
                  refine ms_get (σ := σ_422) (r := some h0) (a := h0) (fs := fl_1 σ_422 h0) (ci := 1) (C := R_M) (T := T_M) (N := 32) hx hb hts in_1 hown hK hH rfl (cell_1 t_424) rfl 2 (by decide) (hts _ wd_419) (fun _ h9 => h9) (v := va_rf (st_R σ_422 42 h0)) rfl d_M_tick_121 ?_
                  refine lv_iload hx hb d_M_tick_124 (lv_at hl 4 rfl) ?_
                  obtain ⟨a_434, e_435, t_436, h⟩ := h
                  obtain ⟨b_437, h⟩ := h
                  refine ms_lald (σ := σ_422) (r := (st_R σ_422 42 h0)) (a := a_434) hx hb hK hH e_435 t_436 rfl (cell_302 t_436) b_437 d_M_tick_126 ?_
                  refine lv_ladd hx hb d_M_tick_127 ?_
                  obtain ⟨b_438, h⟩ := h
                  obtain ⟨σ_439, z_440⟩ : ∃ y : ST, y = st_uJ σ_422 a_430 (Int32.toNatClampNeg 4) ((((st_eJ σ_422 a_430 (Int32.toNatClampNeg 4))) + ((st_eJ σ_422 a_434 (Int32.toNatClampNeg v4))))) := ⟨_, rfl⟩
                  have h := h σ_439 z_440
                  refine ms_last (σ := σ_422) (r := (st_R σ_422 71 h0)) (a := a_430) (x := (((st_eJ σ_422 a_430 (Int32.toNatClampNeg 4))) + ((st_eJ σ_422 a_434 (Int32.toNatClampNeg v4))))) hx hb hK hH hS e_431 t_432 rfl (cell_302 t_432)  b_438 d_M_tick_128 (σ1 := σ_439) (by rw [z_440]; exact uput_302 σ_422 a_430 _ ((((st_eJ σ_422 a_430 (Int32.toNatClampNeg 4))) + ((st_eJ σ_422 a_434 (Int32.toNatClampNeg v4))))) t_432) (by rw [z_440]; rfl) (by rw [z_440]; rfl) (fun H locs hH hK hS => ?_)
                  have t_441 : st_tg σ_439 h0 = some 1 := by rw [z_440]; exact t_424
                  have t_442 : st_tg σ_439 a_4 = some 301 := by rw [z_440]; exact t_425
                  have t_443 : st_tg σ_439 a_319 = some 302 := by rw [z_440]; exact t_426
                  have t_444 : st_tg σ_439 a_402 = some 301 := by rw [z_440]; exact t_427
                  have t_445 : st_tg σ_439 a_406 = some 302 := by rw [z_440]; exact t_428
                  have t_446 : st_tg σ_439 a_410 = some 302 := by rw [z_440]; exact t_429
                  have t_447 : st_tg σ_439 a_430 = some 302 := by rw [z_440]; exact t_432
                  have t_448 : st_tg σ_439 a_434 = some 302 := by rw [z_440]; exact t_436
                  refine mr_aload_n hx hb d_M_tick_129 rfl (lv_at hl 1 rfl) ?_
                  refine ms_get (σ := σ_439) (r := some h0) (a := h0) (fs := fl_1 σ_439 h0) (ci := 1) (C := R_M) (T := T_M) (N := 32) hx hb hts in_1 hown hK hH rfl (cell_1 t_441) rfl 1 (by decide) (hts _ wd_418) (fun _ h9 => h9) (v := va_rf (st_R σ_439 41 h0)) rfl d_M_tick_130 ?_
                  refine lv_iload hx hb d_M_tick_133 (lv_at hl 4 rfl) ?_
                  refine lv_iconst (v := 3) hx hb d_M_tick_135 (by decide) ?_
                  obtain ⟨a_449, e_450, t_451, h⟩ := h
                  obtain ⟨b_452, h⟩ := h
                  obtain ⟨σ_453, z_454⟩ : ∃ y : ST, y = st_uI σ_439 a_449 (Int32.toNatClampNeg v4) 3 := ⟨_, rfl⟩
                  have h := h σ_453 z_454
                  refine ms_iast (σ := σ_439) (r := (st_R σ_439 41 h0)) (a := a_449) (x := 3) hx hb hK hH hS e_450 t_451 rfl (cell_301 t_451)  b_452 d_M_tick_136 (σ1 := σ_453) (by rw [z_454]; exact uput_301 σ_439 a_449 _ 3 t_451) (by rw [z_454]; rfl) (by rw [z_454]; rfl) (fun H locs hH hK hS => ?_)
                  have t_455 : st_tg σ_453 h0 = some 1 := by rw [z_454]; exact t_441
                  have t_456 : st_tg σ_453 a_4 = some 301 := by rw [z_454]; exact t_442
                  have t_457 : st_tg σ_453 a_319 = some 302 := by rw [z_454]; exact t_443
                  have t_458 : st_tg σ_453 a_402 = some 301 := by rw [z_454]; exact t_444
                  have t_459 : st_tg σ_453 a_406 = some 302 := by rw [z_454]; exact t_445
                  have t_460 : st_tg σ_453 a_410 = some 302 := by rw [z_454]; exact t_446
                  have t_461 : st_tg σ_453 a_430 = some 302 := by rw [z_454]; exact t_447
                  have t_462 : st_tg σ_453 a_434 = some 302 := by rw [z_454]; exact t_448
                  have t_463 : st_tg σ_453 a_449 = some 301 := by rw [z_454]; exact t_451
                  refine mr_aload_n hx hb d_M_tick_137 rfl (lv_at hl 1 rfl) ?_
                  refine ms_get (σ := σ_453) (r := some h0) (a := h0) (fs := fl_1 σ_453 h0) (ci := 1) (C := R_M) (T := T_M) (N := 32) hx hb hts in_1 hown hK hH rfl (cell_1 t_455) rfl 8 (by decide) (hts _ wd_425) (fun _ h9 => h9) (v := va_rf (st_R σ_453 48 h0)) rfl d_M_tick_138 ?_
                  refine lv_iload hx hb d_M_tick_141 (lv_at hl 4 rfl) ?_
                  refine lv_iconst (v := (-1)) hx hb d_M_tick_143 (by decide) ?_
                  obtain ⟨a_464, e_465, t_466, h⟩ := h
                  obtain ⟨b_467, h⟩ := h
                  obtain ⟨σ_468, z_469⟩ : ∃ y : ST, y = st_uI σ_453 a_464 (Int32.toNatClampNeg v4) ((-1)) := ⟨_, rfl⟩
                  have h := h σ_468 z_469
                  refine ms_iast (σ := σ_453) (r := (st_R σ_453 48 h0)) (a := a_464) (x := (-1)) hx hb hK hH hS e_465 t_466 rfl (cell_301 t_466)  b_467 d_M_tick_144 (σ1 := σ_468) (by rw [z_469]; exact uput_301 σ_453 a_464 _ ((-1)) t_466) (by rw [z_469]; rfl) (by rw [z_469]; rfl) (fun H locs hH hK hS => ?_)
                  have t_470 : st_tg σ_468 h0 = some 1 := by rw [z_469]; exact t_455
                  have t_471 : st_tg σ_468 a_4 = some 301 := by rw [z_469]; exact t_456
                  have t_472 : st_tg σ_468 a_319 = some 302 := by rw [z_469]; exact t_457
                  have t_473 : st_tg σ_468 a_402 = some 301 := by rw [z_469]; exact t_458
                  have t_474 : st_tg σ_468 a_406 = some 302 := by rw [z_469]; exact t_459
                  have t_475 : st_tg σ_468 a_410 = some 302 := by rw [z_469]; exact t_460
                  have t_476 : st_tg σ_468 a_430 = some 302 := by rw [z_469]; exact t_461
                  have t_477 : st_tg σ_468 a_434 = some 302 := by rw [z_469]; exact t_462
                  have t_478 : st_tg σ_468 a_449 = some 301 := by rw [z_469]; exact t_463
                  have t_479 : st_tg σ_468 a_464 = some 301 := by rw [z_469]; exact t_466
                  obtain ⟨x_480, q_481⟩ : ∃ y : Int32, y = v3 + 1 := ⟨_, rfl⟩
                  have h := h x_480 q_481
                  refine lv_iinc (v := x_480) (lv' := [(3, .int x_480), (5, .int 0), (0, va_rf (some h0)), (1, .long v1), (4, .int v4)]) hx hb d_M_tick_145 hl (k := 3) rfl (by rw [q_481]; rfl) (by decide) rfl (fun ls hl => ?_)
                  obtain ⟨x_482, q_483⟩ : ∃ y : Int32, y = v4 + 1 := ⟨_, rfl⟩
                  have h := h x_482 q_483
                  refine lv_iinc (v := x_482) (lv' := [(4, .int x_482), (3, .int x_480), (5, .int 0), (0, va_rf (some h0)), (1, .long v1)]) hx hb d_M_tick_148 hl (k := 4) rfl (by rw [q_483]; rfl) (by decide) rfl (fun ls hl => ?_)
                  refine lv_goto (tgt := 14) hx hb d_M_tick_151 (by decide) ?_
                  exact ih _ _ _ _ _ _ _ hH hK hS (lv_sub hl [3, 4, 1, 0] rfl) h
              · have h := h.2 c_414
                refine lv_iconst (v := 1) hx hb d_M_tick_79 (by decide) ?_
                refine lv_goto (tgt := 84) hx hb d_M_tick_80 (by decide) ?_
                refine lv_istore (lv' := [(5, .int 1), (0, va_rf (some h0)), (1, .long v1), (3, .int v3), (4, .int v4)]) hx hb d_M_tick_84 hl (by decide) rfl (fun ls hl => ?_)
                refine lv_iload hx hb d_M_tick_86 (lv_at hl 0 rfl) ?_
                refine lv_if_eq (tgt := 148) hx hb d_M_tick_88 (by decide) (fun c_484 => ?_) (fun c_484 => ?_)
                · have h := h.1 c_484
                  obtain ⟨x_485, q_486⟩ : ∃ y : Int32, y = v4 + 1 := ⟨_, rfl⟩
                  have h := h x_485 q_486
                  refine lv_iinc (v := x_485) (lv' := [(4, .int x_485), (5, .int 1), (0, va_rf (some h0)), (1, .long v1), (3, .int v3)]) hx hb d_M_tick_148 hl (k := 4) rfl (by rw [q_486]; rfl) (by decide) rfl (fun ls hl => ?_)
                  refine lv_goto (tgt := 14) hx hb d_M_tick_151 (by decide) ?_
                  exact ih _ _ _ _ _ _ _ hH hK hS (lv_sub hl [2, 3, 4, 0] rfl) h
                · have h := h.2 c_484
                  refine mr_aload_n hx hb d_M_tick_91 rfl (lv_at hl 1 rfl) ?_
                  refine ms_get (σ := σ) (r := some h0) (a := h0) (fs := fl_1 σ h0) (ci := 1) (C := R_M) (T := T_M) (N := 32) hx hb hts in_1 hown hK hH rfl (cell_1 t_2) rfl 12 (by decide) (hts _ wd_429) (fun _ h9 => h9) (v := va_rf (st_R σ 52 h0)) rfl d_M_tick_92 ?_
                  refine mr_aload_n hx hb d_M_tick_95 rfl (lv_at hl 1 rfl) ?_
                  refine ms_get (σ := σ) (r := some h0) (a := h0) (fs := fl_1 σ h0) (ci := 1) (C := R_M) (T := T_M) (N := 32) hx hb hts in_1 hown hK hH rfl (cell_1 t_2) rfl 6 (by decide) (hts _ wd_423) (fun _ h9 => h9) (v := va_rf (st_R σ 46 h0)) rfl d_M_tick_96 ?_
                  refine lv_iload hx hb d_M_tick_99 (lv_at hl 4 rfl) ?_
                  obtain ⟨b_487, h⟩ := h
                  refine ms_iald (σ := σ) (r := (st_R σ 46 h0)) (a := a_402) hx hb hK hH e_403 t_404 rfl (cell_301 t_404) b_487 d_M_tick_101 ?_
                  refine lv_dup2_11 hx hb d_M_tick_102 rfl (cat_rf _) ?_
                  obtain ⟨b_488, h⟩ := h
                  refine ms_lald (σ := σ) (r := (st_R σ 52 h0)) (a := a_406) hx hb hK hH e_407 t_408 rfl (cell_302 t_408) b_488 d_M_tick_103 ?_
                  refine mr_aload_n hx hb d_M_tick_104 rfl (lv_at hl 1 rfl) ?_
                  refine ms_get (σ := σ) (r := some h0) (a := h0) (fs := fl_1 σ h0) (ci := 1) (C := R_M) (T := T_M) (N := 32) hx hb hts in_1 hown hK hH rfl (cell_1 t_2) rfl 2 (by decide) (hts _ wd_419) (fun _ h9 => h9) (v := va_rf (st_R σ 42 h0)) rfl d_M_tick_105 ?_
                  refine lv_iload hx hb d_M_tick_108 (lv_at hl 4 rfl) ?_
                  obtain ⟨b_489, h⟩ := h
                  refine ms_lald (σ := σ) (r := (st_R σ 42 h0)) (a := a_410) hx hb hK hH e_411 t_412 rfl (cell_302 t_412) b_489 d_M_tick_110 ?_
                  refine lv_lsub hx hb d_M_tick_111 ?_
                  obtain ⟨b_490, h⟩ := h
                  obtain ⟨σ_491, z_492⟩ : ∃ y : ST, y = st_uJ σ a_406 (Int32.toNatClampNeg ((st_eI σ a_402 (Int32.toNatClampNeg v4)))) ((((st_eJ σ a_406 (Int32.toNatClampNeg ((st_eI σ a_402 (Int32.toNatClampNeg v4)))))) - ((st_eJ σ a_410 (Int32.toNatClampNeg v4))))) := ⟨_, rfl⟩
                  have h := h σ_491 z_492
                  refine ms_last (σ := σ) (r := (st_R σ 52 h0)) (a := a_406) (x := (((st_eJ σ a_406 (Int32.toNatClampNeg ((st_eI σ a_402 (Int32.toNatClampNeg v4)))))) - ((st_eJ σ a_410 (Int32.toNatClampNeg v4))))) hx hb hK hH hS e_407 t_408 rfl (cell_302 t_408)  b_490 d_M_tick_112 (σ1 := σ_491) (by rw [z_492]; exact uput_302 σ a_406 _ ((((st_eJ σ a_406 (Int32.toNatClampNeg ((st_eI σ a_402 (Int32.toNatClampNeg v4)))))) - ((st_eJ σ a_410 (Int32.toNatClampNeg v4))))) t_408) (by rw [z_492]; rfl) (by rw [z_492]; rfl) (fun H locs hH hK hS => ?_)
                  have t_493 : st_tg σ_491 h0 = some 1 := by rw [z_492]; exact t_2
                  have t_494 : st_tg σ_491 a_4 = some 301 := by rw [z_492]; exact t_6
                  have t_495 : st_tg σ_491 a_319 = some 302 := by rw [z_492]; exact t_321
                  have t_496 : st_tg σ_491 a_402 = some 301 := by rw [z_492]; exact t_404
                  have t_497 : st_tg σ_491 a_406 = some 302 := by rw [z_492]; exact t_408
                  have t_498 : st_tg σ_491 a_410 = some 302 := by rw [z_492]; exact t_412
                  refine mr_aload_n hx hb d_M_tick_113 rfl (lv_at hl 1 rfl) ?_
                  refine ms_get (σ := σ_491) (r := some h0) (a := h0) (fs := fl_1 σ_491 h0) (ci := 1) (C := R_M) (T := T_M) (N := 32) hx hb hts in_1 hown hK hH rfl (cell_1 t_493) rfl 31 (by decide) (hts _ wd_448) (fun _ h9 => h9) (v := va_rf (st_R σ_491 71 h0)) rfl d_M_tick_114 ?_
                  refine lv_iconst (v := 4) hx hb d_M_tick_117 (by decide) ?_
                  refine lv_dup2_11 hx hb d_M_tick_118 rfl (cat_rf _) ?_
                  obtain ⟨a_499, e_500, t_501, h⟩ := h
                  obtain ⟨b_502, h⟩ := h
                  refine ms_lald (σ := σ_491) (r := (st_R σ_491 71 h0)) (a := a_499) hx hb hK hH e_500 t_501 rfl (cell_302 t_501) b_502 d_M_tick_119 ?_
                  refine mr_aload_n hx hb d_M_tick_120 rfl (lv_at hl 1 rfl) ?_
                  refine ms_get (σ := σ_491) (r := some h0) (a := h0) (fs := fl_1 σ_491 h0) (ci := 1) (C := R_M) (T := T_M) (N := 32) hx hb hts in_1 hown hK hH rfl (cell_1 t_493) rfl 2 (by decide) (hts _ wd_419) (fun _ h9 => h9) (v := va_rf (st_R σ_491 42 h0)) rfl d_M_tick_121 ?_
                  refine lv_iload hx hb d_M_tick_124 (lv_at hl 4 rfl) ?_
                  obtain ⟨a_503, e_504, t_505, h⟩ := h
                  obtain ⟨b_506, h⟩ := h
                  refine ms_lald (σ := σ_491) (r := (st_R σ_491 42 h0)) (a := a_503) hx hb hK hH e_504 t_505 rfl (cell_302 t_505) b_506 d_M_tick_126 ?_
                  refine lv_ladd hx hb d_M_tick_127 ?_
                  obtain ⟨b_507, h⟩ := h
                  obtain ⟨σ_508, z_509⟩ : ∃ y : ST, y = st_uJ σ_491 a_499 (Int32.toNatClampNeg 4) ((((st_eJ σ_491 a_499 (Int32.toNatClampNeg 4))) + ((st_eJ σ_491 a_503 (Int32.toNatClampNeg v4))))) := ⟨_, rfl⟩
                  have h := h σ_508 z_509
                  refine ms_last (σ := σ_491) (r := (st_R σ_491 71 h0)) (a := a_499) (x := (((st_eJ σ_491 a_499 (Int32.toNatClampNeg 4))) + ((st_eJ σ_491 a_503 (Int32.toNatClampNeg v4))))) hx hb hK hH hS e_500 t_501 rfl (cell_302 t_501)  b_507 d_M_tick_128 (σ1 := σ_508) (by rw [z_509]; exact uput_302 σ_491 a_499 _ ((((st_eJ σ_491 a_499 (Int32.toNatClampNeg 4))) + ((st_eJ σ_491 a_503 (Int32.toNatClampNeg v4))))) t_501) (by rw [z_509]; rfl) (by rw [z_509]; rfl) (fun H locs hH hK hS => ?_)
                  have t_510 : st_tg σ_508 h0 = some 1 := by rw [z_509]; exact t_493
                  have t_511 : st_tg σ_508 a_4 = some 301 := by rw [z_509]; exact t_494
                  have t_512 : st_tg σ_508 a_319 = some 302 := by rw [z_509]; exact t_495
                  have t_513 : st_tg σ_508 a_402 = some 301 := by rw [z_509]; exact t_496
                  have t_514 : st_tg σ_508 a_406 = some 302 := by rw [z_509]; exact t_497
                  have t_515 : st_tg σ_508 a_410 = some 302 := by rw [z_509]; exact t_498
                  have t_516 : st_tg σ_508 a_499 = some 302 := by rw [z_509]; exact t_501
                  have t_517 : st_tg σ_508 a_503 = some 302 := by rw [z_509]; exact t_505
                  refine mr_aload_n hx hb d_M_tick_129 rfl (lv_at hl 1 rfl) ?_
                  refine ms_get (σ := σ_508) (r := some h0) (a := h0) (fs := fl_1 σ_508 h0) (ci := 1) (C := R_M) (T := T_M) (N := 32) hx hb hts in_1 hown hK hH rfl (cell_1 t_510) rfl 1 (by decide) (hts _ wd_418) (fun _ h9 => h9) (v := va_rf (st_R σ_508 41 h0)) rfl d_M_tick_130 ?_
                  refine lv_iload hx hb d_M_tick_133 (lv_at hl 4 rfl) ?_
                  refine lv_iconst (v := 3) hx hb d_M_tick_135 (by decide) ?_
                  obtain ⟨a_518, e_519, t_520, h⟩ := h
                  obtain ⟨b_521, h⟩ := h
                  obtain ⟨σ_522, z_523⟩ : ∃ y : ST, y = st_uI σ_508 a_518 (Int32.toNatClampNeg v4) 3 := ⟨_, rfl⟩
                  have h := h σ_522 z_523
                  refine ms_iast (σ := σ_508) (r := (st_R σ_508 41 h0)) (a := a_518) (x := 3) hx hb hK hH hS e_519 t_520 rfl (cell_301 t_520)  b_521 d_M_tick_136 (σ1 := σ_522) (by rw [z_523]; exact uput_301 σ_508 a_518 _ 3 t_520) (by rw [z_523]; rfl) (by rw [z_523]; rfl) (fun H locs hH hK hS => ?_)
                  have t_524 : st_tg σ_522 h0 = some 1 := by rw [z_523]; exact t_510
                  have t_525 : st_tg σ_522 a_4 = some 301 := by rw [z_523]; exact t_511
                  have t_526 : st_tg σ_522 a_319 = some 302 := by rw [z_523]; exact t_512
                  have t_527 : st_tg σ_522 a_402 = some 301 := by rw [z_523]; exact t_513
                  have t_528 : st_tg σ_522 a_406 = some 302 := by rw [z_523]; exact t_514
                  have t_529 : st_tg σ_522 a_410 = some 302 := by rw [z_523]; exact t_515
                  have t_530 : st_tg σ_522 a_499 = some 302 := by rw [z_523]; exact t_516
                  have t_531 : st_tg σ_522 a_503 = some 302 := by rw [z_523]; exact t_517
                  have t_532 : st_tg σ_522 a_518 = some 301 := by rw [z_523]; exact t_520
                  refine mr_aload_n hx hb d_M_tick_137 rfl (lv_at hl 1 rfl) ?_
                  refine ms_get (σ := σ_522) (r := some h0) (a := h0) (fs := fl_1 σ_522 h0) (ci := 1) (C := R_M) (T := T_M) (N := 32) hx hb hts in_1 hown hK hH rfl (cell_1 t_524) rfl 8 (by decide) (hts _ wd_425) (fun _ h9 => h9) (v := va_rf (st_R σ_522 48 h0)) rfl d_M_tick_138 ?_
                  refine lv_iload hx hb d_M_tick_141 (lv_at hl 4 rfl) ?_
                  refine lv_iconst (v := (-1)) hx hb d_M_tick_143 (by decide) ?_
                  obtain ⟨a_533, e_534, t_535, h⟩ := h
                  obtain ⟨b_536, h⟩ := h
                  obtain ⟨σ_537, z_538⟩ : ∃ y : ST, y = st_uI σ_522 a_533 (Int32.toNatClampNeg v4) ((-1)) := ⟨_, rfl⟩
                  have h := h σ_537 z_538
                  refine ms_iast (σ := σ_522) (r := (st_R σ_522 48 h0)) (a := a_533) (x := (-1)) hx hb hK hH hS e_534 t_535 rfl (cell_301 t_535)  b_536 d_M_tick_144 (σ1 := σ_537) (by rw [z_538]; exact uput_301 σ_522 a_533 _ ((-1)) t_535) (by rw [z_538]; rfl) (by rw [z_538]; rfl) (fun H locs hH hK hS => ?_)
                  have t_539 : st_tg σ_537 h0 = some 1 := by rw [z_538]; exact t_524
                  have t_540 : st_tg σ_537 a_4 = some 301 := by rw [z_538]; exact t_525
                  have t_541 : st_tg σ_537 a_319 = some 302 := by rw [z_538]; exact t_526
                  have t_542 : st_tg σ_537 a_402 = some 301 := by rw [z_538]; exact t_527
                  have t_543 : st_tg σ_537 a_406 = some 302 := by rw [z_538]; exact t_528
                  have t_544 : st_tg σ_537 a_410 = some 302 := by rw [z_538]; exact t_529
                  have t_545 : st_tg σ_537 a_499 = some 302 := by rw [z_538]; exact t_530
                  have t_546 : st_tg σ_537 a_503 = some 302 := by rw [z_538]; exact t_531
                  have t_547 : st_tg σ_537 a_518 = some 301 := by rw [z_538]; exact t_532
                  have t_548 : st_tg σ_537 a_533 = some 301 := by rw [z_538]; exact t_535
                  obtain ⟨x_549, q_550⟩ : ∃ y : Int32, y = v3 + 1 := ⟨_, rfl⟩
                  have h := h x_549 q_550
                  refine lv_iinc (v := x_549) (lv' := [(3, .int x_549), (5, .int 1), (0, va_rf (some h0)), (1, .long v1), (4, .int v4)]) hx hb d_M_tick_145 hl (k := 3) rfl (by rw [q_550]; rfl) (by decide) rfl (fun ls hl => ?_)
                  obtain ⟨x_551, q_552⟩ : ∃ y : Int32, y = v4 + 1 := ⟨_, rfl⟩
                  have h := h x_551 q_552
                  refine lv_iinc (v := x_551) (lv' := [(4, .int x_551), (3, .int x_549), (5, .int 1), (0, va_rf (some h0)), (1, .long v1)]) hx hb d_M_tick_148 hl (k := 4) rfl (by rw [q_552]; rfl) (by decide) rfl (fun ls hl => ?_)
                  refine lv_goto (tgt := 14) hx hb d_M_tick_151 (by decide) ?_
                  exact ih _ _ _ _ _ _ _ hH hK hS (lv_sub hl [3, 4, 1, 0] rfl) h
  have hS : va_S A s.heap s.heap [] := va_S.rf
  have hl := lv_entry ([.ref h0, .long p1]) (n := 6) (Nat.le_of_ble_eq_true rfl)
  rw [lg_entry_eq]
  generalize (lg_sl ([.ref h0, .long p1]) ++ List.replicate (6 - (lg_sl ([.ref h0, .long p1])).length) Slot.unset).toArray = ls at hl ⊢
  have hl : lv_has ls 6 [(0, va_rf (some h0)), (1, .long p1)] := hl
  unfold wp_M_tick at h
  refine lv_lload_n hx hb d_M_tick_0 rfl (lv_at hl 1 rfl) ?_
  refine lv_lconst (v := 0) hx hb d_M_tick_1 rfl ?_
  refine W.lcmp hx hb d_M_tick_2 ?_
  refine lv_if_ge (tgt := 9) hx hb d_M_tick_3 (by decide) (fun c_1 => ?_) (fun c_1 => ?_)
  · have h := h.1 c_1
    refine lv_iconst (v := 0) hx hb d_M_tick_9 (by decide) ?_
    refine lv_istore_n (lv' := [(3, .int 0), (0, va_rf (some h0)), (1, .long p1)]) hx hb d_M_tick_10 rfl hl (by decide) rfl (fun ls hl => ?_)
    refine lv_iconst (v := 1) hx hb d_M_tick_11 (by decide) ?_
    refine lv_istore (lv' := [(4, .int 1), (3, .int 0), (0, va_rf (some h0)), (1, .long p1)]) hx hb d_M_tick_12 hl (by decide) rfl (fun ls hl => ?_)
    obtain ⟨n, h⟩ := h
    exact b_14 n _ _ _ _ _ _ _ hH hK hS (lv_sub hl [2, 3, 1, 0] rfl) h
  · have h := h.2 c_1
    refine lv_bipush (v := (-102)) hx hb d_M_tick_6 (by decide) ?_
    exact W.iret (v := (-102)) hx hb hr (fun t ht hW => ⟨⟨(-102), σ, rfl, h, mw_pass hH hK hA hS ht hW⟩, hS.F ht⟩) hS.2.2 d_M_tick_8
