def wb_L_law_18 (L : Nat) (xs : Nat → Int32) : Nat → ST → Option Nat → Option Nat → Int32 → Prop
  | 0, _, _, _, _ => False
  | n + 1, σ, v1, v2, v3 =>
  (((((((nI L)) - 8)) < v3) → True) ∧
  ((¬ ((((nI L)) - 8)) < v3) → vp_in v3 L ∧ ((((((((xs (Int32.toNatClampNeg v3))) &&& 31)) = 0) → vp_in ((v3 + 1)) L ∧ (vp_in ((v3 + 2)) L ∧ (vp_in ((v3 + 3)) L ∧ (vp_in ((v3 + 4)) L ∧ (vp_in ((v3 + 5)) L ∧ (vp_in ((v3 + 6)) L ∧ (vp_in ((v3 + 7)) L ∧ (∃ a_25 : Nat, v1 = some a_25 ∧ st_tg σ a_25 = some 0 ∧ (wp_X_order σ a_25 ((xs (Int32.toNatClampNeg ((v3 + 1))))) ((((((Int32.toInt64 ((xs (Int32.toNatClampNeg ((v3 + 2))))))) <<< ((Int32.toInt64 32) &&& 63))) ||| ((((Int32.toInt64 ((xs (Int32.toNatClampNeg ((v3 + 3))))))) &&& 4294967295)))) ((((((Int32.toInt64 ((xs (Int32.toNatClampNeg ((v3 + 4))))))) <<< ((Int32.toInt64 32) &&& 63))) ||| ((((Int32.toInt64 ((xs (Int32.toNatClampNeg ((v3 + 5))))))) &&& 4294967295)))) ((xs (Int32.toNatClampNeg ((v3 + 6))))) ((xs (Int32.toNatClampNeg ((v3 + 7))))) (fun (r_28 : Int32) σ_29 =>
  ∃ a_37 : Nat, v2 = some a_37 ∧ st_tg σ_29 a_37 = some 1 ∧ (wp_M_order σ_29 a_37 ((xs (Int32.toNatClampNeg ((v3 + 1))))) ((((((Int32.toInt64 ((xs (Int32.toNatClampNeg ((v3 + 2))))))) <<< ((Int32.toInt64 32) &&& 63))) ||| ((((Int32.toInt64 ((xs (Int32.toNatClampNeg ((v3 + 3))))))) &&& 4294967295)))) ((((((Int32.toInt64 ((xs (Int32.toNatClampNeg ((v3 + 4))))))) <<< ((Int32.toInt64 32) &&& 63))) ||| ((((Int32.toInt64 ((xs (Int32.toNatClampNeg ((v3 + 5))))))) &&& 4294967295)))) ((xs (Int32.toNatClampNeg ((v3 + 6))))) ((xs (Int32.toNatClampNeg ((v3 + 7))))) (fun (r_40 : Int32) σ_41 =>
  (((r_28 = r_40) → ∀ x_43 : Int32, x_43 = v3 + 8 → (wb_L_law_18 L xs n σ_41 v1 v2 x_43)) ∧
  ((¬ r_28 = r_40) → False)))))))))))))) ∧
  ((¬ ((((xs (Int32.toNatClampNeg v3))) &&& 31)) = 0) → ((((((xs (Int32.toNatClampNeg v3))) &&& 31)) = 1) → vp_in ((v3 + 1)) L ∧ (vp_in ((v3 + 2)) L ∧ (vp_in ((v3 + 3)) L ∧ (vp_in ((v3 + 4)) L ∧ (vp_in ((v3 + 5)) L ∧ (vp_in ((v3 + 6)) L ∧ (∃ a_52 : Nat, v1 = some a_52 ∧ st_tg σ a_52 = some 0 ∧ (wp_X_pay σ a_52 ((xs (Int32.toNatClampNeg ((v3 + 1))))) ((((((Int32.toInt64 ((xs (Int32.toNatClampNeg ((v3 + 2))))))) <<< ((Int32.toInt64 32) &&& 63))) ||| ((((Int32.toInt64 ((xs (Int32.toNatClampNeg ((v3 + 3))))))) &&& 4294967295)))) ((xs (Int32.toNatClampNeg ((v3 + 4))))) ((((((Int32.toInt64 ((xs (Int32.toNatClampNeg ((v3 + 5))))))) <<< ((Int32.toInt64 32) &&& 63))) ||| ((((Int32.toInt64 ((xs (Int32.toNatClampNeg ((v3 + 6))))))) &&& 4294967295)))) (fun (r_55 : Int32) σ_56 =>
  ∃ a_63 : Nat, v2 = some a_63 ∧ st_tg σ_56 a_63 = some 1 ∧ (wp_M_pay σ_56 a_63 ((xs (Int32.toNatClampNeg ((v3 + 1))))) ((((((Int32.toInt64 ((xs (Int32.toNatClampNeg ((v3 + 2))))))) <<< ((Int32.toInt64 32) &&& 63))) ||| ((((Int32.toInt64 ((xs (Int32.toNatClampNeg ((v3 + 3))))))) &&& 4294967295)))) ((xs (Int32.toNatClampNeg ((v3 + 4))))) ((((((Int32.toInt64 ((xs (Int32.toNatClampNeg ((v3 + 5))))))) <<< ((Int32.toInt64 32) &&& 63))) ||| ((((Int32.toInt64 ((xs (Int32.toNatClampNeg ((v3 + 6))))))) &&& 4294967295)))) (fun (r_66 : Int32) σ_67 =>
  (((r_55 = r_66) → ∀ x_69 : Int32, x_69 = v3 + 8 → (wb_L_law_18 L xs n σ_67 v1 v2 x_69)) ∧
  ((¬ r_55 = r_66) → False))))))))))))) ∧
  ((¬ ((((xs (Int32.toNatClampNeg v3))) &&& 31)) = 1) → ((((((xs (Int32.toNatClampNeg v3))) &&& 31)) = 2) → vp_in ((v3 + 1)) L ∧ (vp_in ((v3 + 2)) L ∧ (∃ a_74 : Nat, v1 = some a_74 ∧ st_tg σ a_74 = some 0 ∧ (wp_X_fails σ a_74 ((xs (Int32.toNatClampNeg ((v3 + 1))))) ((xs (Int32.toNatClampNeg ((v3 + 2))))) (fun (r_77 : Int32) σ_78 =>
  ∃ a_81 : Nat, v2 = some a_81 ∧ st_tg σ_78 a_81 = some 1 ∧ (wp_M_fails σ_78 a_81 ((xs (Int32.toNatClampNeg ((v3 + 1))))) ((xs (Int32.toNatClampNeg ((v3 + 2))))) (fun (r_84 : Int32) σ_85 =>
  (((r_77 = r_84) → ∀ x_87 : Int32, x_87 = v3 + 8 → (wb_L_law_18 L xs n σ_85 v1 v2 x_87)) ∧
  ((¬ r_77 = r_84) → False))))))))) ∧
  ((¬ ((((xs (Int32.toNatClampNeg v3))) &&& 31)) = 2) → ((((((xs (Int32.toNatClampNeg v3))) &&& 31)) = 3) → vp_in ((v3 + 1)) L ∧ (vp_in ((v3 + 2)) L ∧ (vp_in ((v3 + 3)) L ∧ (vp_in ((v3 + 4)) L ∧ (vp_in ((v3 + 5)) L ∧ (vp_in ((v3 + 6)) L ∧ (∃ a_96 : Nat, v1 = some a_96 ∧ st_tg σ a_96 = some 0 ∧ (wp_X_ask σ a_96 ((xs (Int32.toNatClampNeg ((v3 + 1))))) ((((((Int32.toInt64 ((xs (Int32.toNatClampNeg ((v3 + 2))))))) <<< ((Int32.toInt64 32) &&& 63))) ||| ((((Int32.toInt64 ((xs (Int32.toNatClampNeg ((v3 + 3))))))) &&& 4294967295)))) ((xs (Int32.toNatClampNeg ((v3 + 4))))) ((((((Int32.toInt64 ((xs (Int32.toNatClampNeg ((v3 + 5))))))) <<< ((Int32.toInt64 32) &&& 63))) ||| ((((Int32.toInt64 ((xs (Int32.toNatClampNeg ((v3 + 6))))))) &&& 4294967295)))) (fun (r_99 : Int32) σ_100 =>
  ∃ a_107 : Nat, v2 = some a_107 ∧ st_tg σ_100 a_107 = some 1 ∧ (wp_M_ask σ_100 a_107 ((xs (Int32.toNatClampNeg ((v3 + 1))))) ((((((Int32.toInt64 ((xs (Int32.toNatClampNeg ((v3 + 2))))))) <<< ((Int32.toInt64 32) &&& 63))) ||| ((((Int32.toInt64 ((xs (Int32.toNatClampNeg ((v3 + 3))))))) &&& 4294967295)))) ((xs (Int32.toNatClampNeg ((v3 + 4))))) ((((((Int32.toInt64 ((xs (Int32.toNatClampNeg ((v3 + 5))))))) <<< ((Int32.toInt64 32) &&& 63))) ||| ((((Int32.toInt64 ((xs (Int32.toNatClampNeg ((v3 + 6))))))) &&& 4294967295)))) (fun (r_110 : Int32) σ_111 =>
  (((r_99 = r_110) → ∀ x_113 : Int32, x_113 = v3 + 8 → (wb_L_law_18 L xs n σ_111 v1 v2 x_113)) ∧
  ((¬ r_99 = r_110) → False))))))))))))) ∧
  ((¬ ((((xs (Int32.toNatClampNeg v3))) &&& 31)) = 3) → ((((((xs (Int32.toNatClampNeg v3))) &&& 31)) = 4) → vp_in ((v3 + 1)) L ∧ (∃ a_117 : Nat, v1 = some a_117 ∧ st_tg σ a_117 = some 0 ∧ (wp_X_serve σ a_117 ((xs (Int32.toNatClampNeg ((v3 + 1))))) (fun (r_120 : Int32) σ_121 =>
  ∃ a_123 : Nat, v2 = some a_123 ∧ st_tg σ_121 a_123 = some 1 ∧ (wp_M_serve σ_121 a_123 ((xs (Int32.toNatClampNeg ((v3 + 1))))) (fun (r_126 : Int32) σ_127 =>
  (((r_120 = r_126) → ∀ x_129 : Int32, x_129 = v3 + 8 → (wb_L_law_18 L xs n σ_127 v1 v2 x_129)) ∧
  ((¬ r_120 = r_126) → False)))))))) ∧
  ((¬ ((((xs (Int32.toNatClampNeg v3))) &&& 31)) = 4) → ((((((xs (Int32.toNatClampNeg v3))) &&& 31)) = 5) → vp_in ((v3 + 1)) L ∧ (∃ a_133 : Nat, v1 = some a_133 ∧ st_tg σ a_133 = some 0 ∧ (wp_X_answer σ a_133 ((xs (Int32.toNatClampNeg ((v3 + 1))))) (fun (r_136 : Int32) σ_137 =>
  ∃ a_139 : Nat, v2 = some a_139 ∧ st_tg σ_137 a_139 = some 1 ∧ (wp_M_answer σ_137 a_139 ((xs (Int32.toNatClampNeg ((v3 + 1))))) (fun (r_142 : Int32) σ_143 =>
  (((r_136 = r_142) → ∀ x_145 : Int32, x_145 = v3 + 8 → (wb_L_law_18 L xs n σ_143 v1 v2 x_145)) ∧
  ((¬ r_136 = r_142) → False)))))))) ∧
  ((¬ ((((xs (Int32.toNatClampNeg v3))) &&& 31)) = 5) → ((((((xs (Int32.toNatClampNeg v3))) &&& 31)) = 6) → vp_in ((v3 + 1)) L ∧ (vp_in ((v3 + 2)) L ∧ (vp_in ((v3 + 3)) L ∧ (vp_in ((v3 + 4)) L ∧ (∃ a_152 : Nat, v1 = some a_152 ∧ st_tg σ a_152 = some 0 ∧ (wp_X_bar σ a_152 ((((((Int32.toInt64 ((xs (Int32.toNatClampNeg ((v3 + 1))))))) <<< ((Int32.toInt64 32) &&& 63))) ||| ((((Int32.toInt64 ((xs (Int32.toNatClampNeg ((v3 + 2))))))) &&& 4294967295)))) ((((((Int32.toInt64 ((xs (Int32.toNatClampNeg ((v3 + 3))))))) <<< ((Int32.toInt64 32) &&& 63))) ||| ((((Int32.toInt64 ((xs (Int32.toNatClampNeg ((v3 + 4))))))) &&& 4294967295)))) (fun (r_155 : Int32) σ_156 =>
  ∃ a_161 : Nat, v2 = some a_161 ∧ st_tg σ_156 a_161 = some 1 ∧ (wp_M_bar σ_156 a_161 ((((((Int32.toInt64 ((xs (Int32.toNatClampNeg ((v3 + 1))))))) <<< ((Int32.toInt64 32) &&& 63))) ||| ((((Int32.toInt64 ((xs (Int32.toNatClampNeg ((v3 + 2))))))) &&& 4294967295)))) ((((((Int32.toInt64 ((xs (Int32.toNatClampNeg ((v3 + 3))))))) <<< ((Int32.toInt64 32) &&& 63))) ||| ((((Int32.toInt64 ((xs (Int32.toNatClampNeg ((v3 + 4))))))) &&& 4294967295)))) (fun (r_164 : Int32) σ_165 =>
  (((r_155 = r_164) → ∀ x_167 : Int32, x_167 = v3 + 8 → (wb_L_law_18 L xs n σ_165 v1 v2 x_167)) ∧
  ((¬ r_155 = r_164) → False))))))))))) ∧
  ((¬ ((((xs (Int32.toNatClampNeg v3))) &&& 31)) = 6) → ((((((xs (Int32.toNatClampNeg v3))) &&& 31)) = 7) → vp_in ((v3 + 1)) L ∧ (vp_in ((v3 + 2)) L ∧ (∃ a_172 : Nat, v1 = some a_172 ∧ st_tg σ a_172 = some 0 ∧ (wp_X_since σ a_172 ((((((Int32.toInt64 ((xs (Int32.toNatClampNeg ((v3 + 1))))))) <<< ((Int32.toInt64 32) &&& 63))) ||| ((((Int32.toInt64 ((xs (Int32.toNatClampNeg ((v3 + 2))))))) &&& 4294967295)))) (fun (r_175 : Int64) σ_176 =>
  ∃ a_179 : Nat, v2 = some a_179 ∧ st_tg σ_176 a_179 = some 1 ∧ (wp_M_since σ_176 a_179 ((((((Int32.toInt64 ((xs (Int32.toNatClampNeg ((v3 + 1))))))) <<< ((Int32.toInt64 32) &&& 63))) ||| ((((Int32.toInt64 ((xs (Int32.toNatClampNeg ((v3 + 2))))))) &&& 4294967295)))) (fun (r_182 : Int64) σ_183 =>
  (((((lg_cmp r_175 r_182)) = 0) → ∀ x_185 : Int32, x_185 = v3 + 8 → (wb_L_law_18 L xs n σ_183 v1 v2 x_185)) ∧
  ((¬ ((lg_cmp r_175 r_182)) = 0) → False))))))))) ∧
  ((¬ ((((xs (Int32.toNatClampNeg v3))) &&& 31)) = 7) → ((((((xs (Int32.toNatClampNeg v3))) &&& 31)) = 8) → vp_in ((v3 + 1)) L ∧ (vp_in ((v3 + 2)) L ∧ (∃ a_190 : Nat, v1 = some a_190 ∧ st_tg σ a_190 = some 0 ∧ (wp_X_replace σ a_190 ((((((Int32.toInt64 ((xs (Int32.toNatClampNeg ((v3 + 1))))))) <<< ((Int32.toInt64 32) &&& 63))) ||| ((((Int32.toInt64 ((xs (Int32.toNatClampNeg ((v3 + 2))))))) &&& 4294967295)))) (fun (r_193 : Int32) σ_194 =>
  ∃ a_197 : Nat, v2 = some a_197 ∧ st_tg σ_194 a_197 = some 1 ∧ (wp_M_replace σ_194 a_197 ((((((Int32.toInt64 ((xs (Int32.toNatClampNeg ((v3 + 1))))))) <<< ((Int32.toInt64 32) &&& 63))) ||| ((((Int32.toInt64 ((xs (Int32.toNatClampNeg ((v3 + 2))))))) &&& 4294967295)))) (fun (r_200 : Int32) σ_201 =>
  (((r_193 = r_200) → ∀ x_203 : Int32, x_203 = v3 + 8 → (wb_L_law_18 L xs n σ_201 v1 v2 x_203)) ∧
  ((¬ r_193 = r_200) → False))))))))) ∧
  ((¬ ((((xs (Int32.toNatClampNeg v3))) &&& 31)) = 8) → ((((((xs (Int32.toNatClampNeg v3))) &&& 31)) = 9) → vp_in ((v3 + 1)) L ∧ (vp_in ((v3 + 2)) L ∧ ((((((xs (Int32.toNatClampNeg ((v3 + 2))))) = 0) → ∃ a_209 : Nat, v1 = some a_209 ∧ st_tg σ a_209 = some 0 ∧ (wp_X_cut σ a_209 ((xs (Int32.toNatClampNeg ((v3 + 1))))) 0 (fun (r_212 : Int32) σ_213 =>
  (((((xs (Int32.toNatClampNeg ((v3 + 2))))) = 0) → ∃ a_217 : Nat, v2 = some a_217 ∧ st_tg σ_213 a_217 = some 1 ∧ (wp_M_cut σ_213 a_217 ((xs (Int32.toNatClampNeg ((v3 + 1))))) 0 (fun (r_220 : Int32) σ_221 =>
  (((r_212 = r_220) → ∀ x_223 : Int32, x_223 = v3 + 8 → (wb_L_law_18 L xs n σ_221 v1 v2 x_223)) ∧
  ((¬ r_212 = r_220) → False))))) ∧
  ((¬ ((xs (Int32.toNatClampNeg ((v3 + 2))))) = 0) → ∃ a_225 : Nat, v2 = some a_225 ∧ st_tg σ_213 a_225 = some 1 ∧ (wp_M_cut σ_213 a_225 ((xs (Int32.toNatClampNeg ((v3 + 1))))) 1 (fun (r_228 : Int32) σ_229 =>
  (((r_212 = r_228) → ∀ x_231 : Int32, x_231 = v3 + 8 → (wb_L_law_18 L xs n σ_229 v1 v2 x_231)) ∧
  ((¬ r_212 = r_228) → False))))))))) ∧
  ((¬ ((xs (Int32.toNatClampNeg ((v3 + 2))))) = 0) → ∃ a_233 : Nat, v1 = some a_233 ∧ st_tg σ a_233 = some 0 ∧ (wp_X_cut σ a_233 ((xs (Int32.toNatClampNeg ((v3 + 1))))) 1 (fun (r_236 : Int32) σ_237 =>
  (((((xs (Int32.toNatClampNeg ((v3 + 2))))) = 0) → ∃ a_241 : Nat, v2 = some a_241 ∧ st_tg σ_237 a_241 = some 1 ∧ (wp_M_cut σ_237 a_241 ((xs (Int32.toNatClampNeg ((v3 + 1))))) 0 (fun (r_244 : Int32) σ_245 =>
  (((r_236 = r_244) → ∀ x_247 : Int32, x_247 = v3 + 8 → (wb_L_law_18 L xs n σ_245 v1 v2 x_247)) ∧
  ((¬ r_236 = r_244) → False))))) ∧
  ((¬ ((xs (Int32.toNatClampNeg ((v3 + 2))))) = 0) → ∃ a_249 : Nat, v2 = some a_249 ∧ st_tg σ_237 a_249 = some 1 ∧ (wp_M_cut σ_237 a_249 ((xs (Int32.toNatClampNeg ((v3 + 1))))) 1 (fun (r_252 : Int32) σ_253 =>
  (((r_236 = r_252) → ∀ x_255 : Int32, x_255 = v3 + 8 → (wb_L_law_18 L xs n σ_253 v1 v2 x_255)) ∧
  ((¬ r_236 = r_252) → False))))))))))))) ∧
  ((¬ ((((xs (Int32.toNatClampNeg v3))) &&& 31)) = 9) → ((((((xs (Int32.toNatClampNeg v3))) &&& 31)) = 10) → vp_in ((v3 + 1)) L ∧ (vp_in ((v3 + 2)) L ∧ (vp_in ((v3 + 3)) L ∧ (∃ a_261 : Nat, v1 = some a_261 ∧ st_tg σ a_261 = some 0 ∧ (wp_X_list σ a_261 ((xs (Int32.toNatClampNeg ((v3 + 1))))) ((((((Int32.toInt64 ((xs (Int32.toNatClampNeg ((v3 + 2))))))) <<< ((Int32.toInt64 32) &&& 63))) ||| ((((Int32.toInt64 ((xs (Int32.toNatClampNeg ((v3 + 3))))))) &&& 4294967295)))) (fun (r_264 : Int32) σ_265 =>
  ∃ a_269 : Nat, v2 = some a_269 ∧ st_tg σ_265 a_269 = some 1 ∧ (wp_M_list σ_265 a_269 ((xs (Int32.toNatClampNeg ((v3 + 1))))) ((((((Int32.toInt64 ((xs (Int32.toNatClampNeg ((v3 + 2))))))) <<< ((Int32.toInt64 32) &&& 63))) ||| ((((Int32.toInt64 ((xs (Int32.toNatClampNeg ((v3 + 3))))))) &&& 4294967295)))) (fun (r_272 : Int32) σ_273 =>
  (((r_264 = r_272) → ∀ x_275 : Int32, x_275 = v3 + 8 → (wb_L_law_18 L xs n σ_273 v1 v2 x_275)) ∧
  ((¬ r_264 = r_272) → False)))))))))) ∧
  ((¬ ((((xs (Int32.toNatClampNeg v3))) &&& 31)) = 10) → ((((((xs (Int32.toNatClampNeg v3))) &&& 31)) = 11) → vp_in ((v3 + 1)) L ∧ (vp_in ((v3 + 2)) L ∧ (vp_in ((v3 + 3)) L ∧ (vp_in ((v3 + 4)) L ∧ (∃ a_282 : Nat, v1 = some a_282 ∧ st_tg σ a_282 = some 0 ∧ (wp_X_set σ a_282 ((xs (Int32.toNatClampNeg ((v3 + 1))))) ((xs (Int32.toNatClampNeg ((v3 + 2))))) ((((((Int32.toInt64 ((xs (Int32.toNatClampNeg ((v3 + 3))))))) <<< ((Int32.toInt64 32) &&& 63))) ||| ((((Int32.toInt64 ((xs (Int32.toNatClampNeg ((v3 + 4))))))) &&& 4294967295)))) (fun (r_285 : Int32) σ_286 =>
  ∃ a_291 : Nat, v2 = some a_291 ∧ st_tg σ_286 a_291 = some 1 ∧ (wp_M_set σ_286 a_291 ((xs (Int32.toNatClampNeg ((v3 + 1))))) ((xs (Int32.toNatClampNeg ((v3 + 2))))) ((((((Int32.toInt64 ((xs (Int32.toNatClampNeg ((v3 + 3))))))) <<< ((Int32.toInt64 32) &&& 63))) ||| ((((Int32.toInt64 ((xs (Int32.toNatClampNeg ((v3 + 4))))))) &&& 4294967295)))) (fun (r_294 : Int32) σ_295 =>
  (((r_285 = r_294) → ∀ x_297 : Int32, x_297 = v3 + 8 → (wb_L_law_18 L xs n σ_295 v1 v2 x_297)) ∧
  ((¬ r_285 = r_294) → False))))))))))) ∧
  ((¬ ((((xs (Int32.toNatClampNeg v3))) &&& 31)) = 11) → ((((((xs (Int32.toNatClampNeg v3))) &&& 31)) = 12) → vp_in ((v3 + 1)) L ∧ (vp_in ((v3 + 2)) L ∧ (vp_in ((v3 + 3)) L ∧ (vp_in ((v3 + 4)) L ∧ (∃ a_304 : Nat, v1 = some a_304 ∧ st_tg σ a_304 = some 0 ∧ (wp_X_collect σ a_304 ((xs (Int32.toNatClampNeg ((v3 + 1))))) ((((((Int32.toInt64 ((xs (Int32.toNatClampNeg ((v3 + 2))))))) <<< ((Int32.toInt64 32) &&& 63))) ||| ((((Int32.toInt64 ((xs (Int32.toNatClampNeg ((v3 + 3))))))) &&& 4294967295)))) ((xs (Int32.toNatClampNeg ((v3 + 4))))) (fun (r_307 : Int32) σ_308 =>
  ∃ a_313 : Nat, v2 = some a_313 ∧ st_tg σ_308 a_313 = some 1 ∧ (wp_M_collect σ_308 a_313 ((xs (Int32.toNatClampNeg ((v3 + 1))))) ((((((Int32.toInt64 ((xs (Int32.toNatClampNeg ((v3 + 2))))))) <<< ((Int32.toInt64 32) &&& 63))) ||| ((((Int32.toInt64 ((xs (Int32.toNatClampNeg ((v3 + 3))))))) &&& 4294967295)))) ((xs (Int32.toNatClampNeg ((v3 + 4))))) (fun (r_316 : Int32) σ_317 =>
  (((r_307 = r_316) → ∀ x_319 : Int32, x_319 = v3 + 8 → (wb_L_law_18 L xs n σ_317 v1 v2 x_319)) ∧
  ((¬ r_307 = r_316) → False))))))))))) ∧
  ((¬ ((((xs (Int32.toNatClampNeg v3))) &&& 31)) = 12) → ((((((xs (Int32.toNatClampNeg v3))) &&& 31)) = 13) → vp_in ((v3 + 1)) L ∧ (∃ a_323 : Nat, v1 = some a_323 ∧ st_tg σ a_323 = some 0 ∧ (wp_X_pass σ a_323 ((xs (Int32.toNatClampNeg ((v3 + 1))))) (fun (r_326 : Int32) σ_327 =>
  ∃ a_329 : Nat, v2 = some a_329 ∧ st_tg σ_327 a_329 = some 1 ∧ (wp_M_pass σ_327 a_329 ((xs (Int32.toNatClampNeg ((v3 + 1))))) (fun (r_332 : Int32) σ_333 =>
  (((r_326 = r_332) → ∀ x_335 : Int32, x_335 = v3 + 8 → (wb_L_law_18 L xs n σ_333 v1 v2 x_335)) ∧
  ((¬ r_326 = r_332) → False)))))))) ∧
  ((¬ ((((xs (Int32.toNatClampNeg v3))) &&& 31)) = 13) → ((((((xs (Int32.toNatClampNeg v3))) &&& 31)) = 14) → vp_in ((v3 + 1)) L ∧ (vp_in ((v3 + 2)) L ∧ (∃ a_340 : Nat, v1 = some a_340 ∧ st_tg σ a_340 = some 0 ∧ (wp_X_tick σ a_340 ((((((Int32.toInt64 ((xs (Int32.toNatClampNeg ((v3 + 1))))))) <<< ((Int32.toInt64 32) &&& 63))) ||| ((((Int32.toInt64 ((xs (Int32.toNatClampNeg ((v3 + 2))))))) &&& 4294967295)))) (fun (r_343 : Int32) σ_344 =>
  ∃ a_347 : Nat, v2 = some a_347 ∧ st_tg σ_344 a_347 = some 1 ∧ (wp_M_tick σ_344 a_347 ((((((Int32.toInt64 ((xs (Int32.toNatClampNeg ((v3 + 1))))))) <<< ((Int32.toInt64 32) &&& 63))) ||| ((((Int32.toInt64 ((xs (Int32.toNatClampNeg ((v3 + 2))))))) &&& 4294967295)))) (fun (r_350 : Int32) σ_351 =>
  (((r_343 = r_350) → ∀ x_353 : Int32, x_353 = v3 + 8 → (wb_L_law_18 L xs n σ_351 v1 v2 x_353)) ∧
  ((¬ r_343 = r_350) → False))))))))) ∧
  ((¬ ((((xs (Int32.toNatClampNeg v3))) &&& 31)) = 14) → ((((((xs (Int32.toNatClampNeg v3))) &&& 31)) = 15) → vp_in ((v3 + 1)) L ∧ (vp_in ((v3 + 2)) L ∧ (vp_in ((v3 + 3)) L ∧ (∃ a_359 : Nat, v1 = some a_359 ∧ st_tg σ a_359 = some 0 ∧ (wp_X_about σ a_359 ((((((Int32.toInt64 ((xs (Int32.toNatClampNeg ((v3 + 1))))))) <<< ((Int32.toInt64 32) &&& 63))) ||| ((((Int32.toInt64 ((xs (Int32.toNatClampNeg ((v3 + 2))))))) &&& 4294967295)))) ((xs (Int32.toNatClampNeg ((v3 + 3))))) (fun (r_362 : Int64) σ_363 =>
  ∃ a_367 : Nat, v2 = some a_367 ∧ st_tg σ_363 a_367 = some 1 ∧ (wp_M_about σ_363 a_367 ((((((Int32.toInt64 ((xs (Int32.toNatClampNeg ((v3 + 1))))))) <<< ((Int32.toInt64 32) &&& 63))) ||| ((((Int32.toInt64 ((xs (Int32.toNatClampNeg ((v3 + 2))))))) &&& 4294967295)))) ((xs (Int32.toNatClampNeg ((v3 + 3))))) (fun (r_370 : Int64) σ_371 =>
  (((((lg_cmp r_362 r_370)) = 0) → ∀ x_373 : Int32, x_373 = v3 + 8 → (wb_L_law_18 L xs n σ_371 v1 v2 x_373)) ∧
  ((¬ ((lg_cmp r_362 r_370)) = 0) → False)))))))))) ∧
  ((¬ ((((xs (Int32.toNatClampNeg v3))) &&& 31)) = 15) → ((((((xs (Int32.toNatClampNeg v3))) &&& 31)) = 16) → vp_in ((v3 + 1)) L ∧ (∃ a_377 : Nat, v1 = some a_377 ∧ st_tg σ a_377 = some 0 ∧ (wp_X_till σ a_377 ((xs (Int32.toNatClampNeg ((v3 + 1))))) (fun (r_380 : Int64) σ_381 =>
  ∃ a_383 : Nat, v2 = some a_383 ∧ st_tg σ_381 a_383 = some 1 ∧ (wp_M_till σ_381 a_383 ((xs (Int32.toNatClampNeg ((v3 + 1))))) (fun (r_386 : Int64) σ_387 =>
  (((((lg_cmp r_380 r_386)) = 0) → ∀ x_389 : Int32, x_389 = v3 + 8 → (wb_L_law_18 L xs n σ_387 v1 v2 x_389)) ∧
  ((¬ ((lg_cmp r_380 r_386)) = 0) → False)))))))) ∧
  ((¬ ((((xs (Int32.toNatClampNeg v3))) &&& 31)) = 16) → ((((((xs (Int32.toNatClampNeg v3))) &&& 31)) = 17) → vp_in ((v3 + 1)) L ∧ (∃ a_393 : Nat, v1 = some a_393 ∧ st_tg σ a_393 = some 0 ∧ (wp_X_all σ a_393 ((xs (Int32.toNatClampNeg ((v3 + 1))))) (fun (r_396 : Int64) σ_397 =>
  ∃ a_399 : Nat, v2 = some a_399 ∧ st_tg σ_397 a_399 = some 1 ∧ (wp_M_all σ_397 a_399 ((xs (Int32.toNatClampNeg ((v3 + 1))))) (fun (r_402 : Int64) σ_403 =>
  (((((lg_cmp r_396 r_402)) = 0) → ∀ x_405 : Int32, x_405 = v3 + 8 → (wb_L_law_18 L xs n σ_403 v1 v2 x_405)) ∧
  ((¬ ((lg_cmp r_396 r_402)) = 0) → False)))))))) ∧
  ((¬ ((((xs (Int32.toNatClampNeg v3))) &&& 31)) = 17) → ∀ x_407 : Int32, x_407 = v3 + 8 → (wb_L_law_18 L xs n σ v1 v2 x_407)))))))))))))))))))))))
def wp_L (L : Nat) (xs : Nat → Int32) (σ : ST) : Prop :=
  ∀ q_1 : Nat, st_tg σ q_1 = none → ∀ σ_2 : ST, σ_2 = st_new σ q_1 0 → (wp_X_init σ_2 q_1 (fun σ_7 =>
  ∀ q_8 : Nat, st_tg σ_7 q_8 = none → ∀ σ_9 : ST, σ_9 = st_new σ_7 q_8 1 → (wp_M_init σ_9 q_8 (fun σ_14 =>
  ∃ n : Nat, n ≤ 513 ∧ wb_L_law_18 L xs n σ_14 (some q_1) (some q_8) 0))))
set_option maxHeartbeats 40000000 in
set_option maxRecDepth 100000 in
theorem law_walk {p : Program} {e : Env} {s : State} {m : MethodId} {below : List Frame} {meth : Method} {c : Code} (l : Launch) {D : va_G} {σ : ST} {b L : Nat} {xs : Nat → Int32} (C0 : lw_At p s m meth c b L xs) (hH : mg_H D vwCl (fun q : Nat => s.heap.size ≤ q) (st_cell σ) s.heap) (hK : mk_K D σ s) (h : wp_L L xs σ) : W p l e room_1 s m #[Value.ref b] below meth c s.heap [] 0 0 (lw_Z below #[Value.ref b] s) (entryFrame m ([Value.ref b] : List Value).toArray 4) := by
  obtain ⟨hx, hb, hr, hml, hown, hts, hX, hbl, hlocks, hgv⟩ := C0
  have hA : ∀ q : Nat, s.heap.size ≤ q → (fun q : Nat => s.heap.size ≤ q) q := fun _ h => h
  have hbA : ¬ (fun q : Nat => s.heap.size ≤ q) b := Nat.not_le.mpr hbl
  have hn : mn s := mn_of hts
  have hts : ∀ w ∈ lw_g, w.before #[Value.ref b] s = true := fun w h => hts w (List.mem_filter.mp h).1
  generalize hAe : (fun q : Nat => s.heap.size ≤ q) = A at hA hbA hH
  have hA2 : ∀ q, A q → s.heap.size ≤ q := fun q h => by rw [← hAe] at h; exact h
  have b_18 : ∀ (n : Nat), n ≤ 513 → ∀ (σ : ST) (v1 : Option Nat) (v2 : Option Nat) (v3 : Int32) (H : Heap) (locs : List Loc) (ls : Array Slot), mg_H D vwCl A (st_cell σ) H → mk_K D σ s → va_S A s.heap H locs → lv_has ls 4 [(0, va_rf (some b)), (1, va_rf v1), (2, va_rf v2), (3, .int v3)] → wb_L_law_18 L xs n σ v1 v2 v3 → W p l e room_1 s m #[Value.ref b] below meth c H locs (51 + (513 - n) * 1) (7072 + (513 - n) * 11) (lw_Z below #[Value.ref b] s) (F0 m 18 ls []) := by
    intro n
    induction n with
    | zero =>
      intro hN σ v1 v2 v3 H locs ls hH hK hS hl h
      exact h.elim
    | succ n ih =>
      intro hN σ v1 v2 v3 H locs ls hH hK hS hl h
      unfold wb_L_law_18 at h
      refine lv_iload_n hx hb d_L_law_18 rfl (lv_at hl 3 rfl) ?_
      refine mr_aload_n hx hb d_L_law_19 rfl (lv_at hl 0 rfl) ?_
      refine va_slen hx hb hX hbl hbA hS d_L_law_20 ?_
      refine lv_bipush (v := 8) hx hb d_L_law_21 (by decide) ?_
      refine lv_isub hx hb d_L_law_23 ?_
      refine lv_icmp_gt (tgt := 1208) hx hb d_L_law_24 (by decide) (fun c_15 => ?_) (fun c_15 => ?_)
      · have h := h.1 c_15
        refine W.widen (k := 564) (n := 12715) (by omega) (by omega) ?_
        refine lv_iconst (v := 1) hx hb d_L_law_1208 (by decide) ?_
        refine va_forget (fun q hq => hA2 _ (hS.2.2 q hq)) ?_
        refine W.widen (k := 600000) (n := 7302250) (by decide) (by decide) ?_
        exact lw_ret hx hb hr hlocks d_L_law_1209
      · have h := h.2 c_15
        refine mr_aload_n hx hb d_L_law_27 rfl (lv_at hl 0 rfl) ?_
        refine lv_iload_n hx hb d_L_law_28 rfl (lv_at hl 3 rfl) ?_
        obtain ⟨b_16, h⟩ := h
        refine va_sld hx hb hX hbl hbA hS b_16 d_L_law_29 ?_
        refine lv_bipush (v := 31) hx hb d_L_law_30 (by decide) ?_
        refine lv_iand hx hb d_L_law_32 ?_
        by_cases c_17 : ((((xs (Int32.toNatClampNeg v3))) &&& 31)) = 0
        · have h := h.1 c_17
          refine lv_tableIn (off := 87) (tgt := 120) hx hb d_L_law_33 (by rw [c_17]; decide) (by rw [c_17]; decide) (by rw [c_17]; decide) (by decide) ?_
          refine mr_aload_n hx hb d_L_law_120 rfl (lv_at hl 1 rfl) ?_
          refine mr_aload_n hx hb d_L_law_121 rfl (lv_at hl 0 rfl) ?_
          refine lv_iload_n hx hb d_L_law_122 rfl (lv_at hl 3 rfl) ?_
          refine lv_iconst (v := 1) hx hb d_L_law_123 (by decide) ?_
          refine lv_iadd hx hb d_L_law_124 ?_
          obtain ⟨b_18, h⟩ := h
          refine va_sld hx hb hX hbl hbA hS b_18 d_L_law_125 ?_
          refine mr_aload_n hx hb d_L_law_126 rfl (lv_at hl 0 rfl) ?_
          refine lv_iload_n hx hb d_L_law_127 rfl (lv_at hl 3 rfl) ?_
          refine lv_iconst (v := 2) hx hb d_L_law_128 (by decide) ?_
          refine lv_iadd hx hb d_L_law_129 ?_
          obtain ⟨b_19, h⟩ := h
          refine va_sld hx hb hX hbl hbA hS b_19 d_L_law_130 ?_
          refine lv_i2l hx hb d_L_law_131 rfl ?_
          refine lv_bipush (v := 32) hx hb d_L_law_132 (by decide) ?_
          refine lv_lshl hx hb d_L_law_134 rfl ?_
          refine mr_aload_n hx hb d_L_law_135 rfl (lv_at hl 0 rfl) ?_
          refine lv_iload_n hx hb d_L_law_136 rfl (lv_at hl 3 rfl) ?_
          refine lv_iconst (v := 3) hx hb d_L_law_137 (by decide) ?_
          refine lv_iadd hx hb d_L_law_138 ?_
          obtain ⟨b_20, h⟩ := h
          refine va_sld hx hb hX hbl hbA hS b_20 d_L_law_139 ?_
          refine lv_i2l hx hb d_L_law_140 rfl ?_
          refine lv_ldc2 (v := 4294967295) hx hb hown (hts _ wd_631) d_L_law_141 ?_
          refine lv_land hx hb d_L_law_144 ?_
          refine lv_lor hx hb d_L_law_145 ?_
          refine mr_aload_n hx hb d_L_law_146 rfl (lv_at hl 0 rfl) ?_
          refine lv_iload_n hx hb d_L_law_147 rfl (lv_at hl 3 rfl) ?_
          refine lv_iconst (v := 4) hx hb d_L_law_148 (by decide) ?_
          refine lv_iadd hx hb d_L_law_149 ?_
          obtain ⟨b_21, h⟩ := h
          refine va_sld hx hb hX hbl hbA hS b_21 d_L_law_150 ?_
          refine lv_i2l hx hb d_L_law_151 rfl ?_
          refine lv_bipush (v := 32) hx hb d_L_law_152 (by decide) ?_
          refine lv_lshl hx hb d_L_law_154 rfl ?_
          refine mr_aload_n hx hb d_L_law_155 rfl (lv_at hl 0 rfl) ?_
          refine lv_iload_n hx hb d_L_law_156 rfl (lv_at hl 3 rfl) ?_
          refine lv_iconst (v := 5) hx hb d_L_law_157 (by decide) ?_
          refine lv_iadd hx hb d_L_law_158 ?_
          obtain ⟨b_22, h⟩ := h
          refine va_sld hx hb hX hbl hbA hS b_22 d_L_law_159 ?_
          refine lv_i2l hx hb d_L_law_160 rfl ?_
          refine lv_ldc2 (v := 4294967295) hx hb hown (hts _ wd_631) d_L_law_161 ?_
          refine lv_land hx hb d_L_law_164 ?_
          refine lv_lor hx hb d_L_law_165 ?_
          refine mr_aload_n hx hb d_L_law_166 rfl (lv_at hl 0 rfl) ?_
          refine lv_iload_n hx hb d_L_law_167 rfl (lv_at hl 3 rfl) ?_
          refine lv_bipush (v := 6) hx hb d_L_law_168 (by decide) ?_
          refine lv_iadd hx hb d_L_law_170 ?_
          obtain ⟨b_23, h⟩ := h
          refine va_sld hx hb hX hbl hbA hS b_23 d_L_law_171 ?_
          refine mr_aload_n hx hb d_L_law_172 rfl (lv_at hl 0 rfl) ?_
          refine lv_iload_n hx hb d_L_law_173 rfl (lv_at hl 3 rfl) ?_
          refine lv_bipush (v := 7) hx hb d_L_law_174 (by decide) ?_
          refine lv_iadd hx hb d_L_law_176 ?_
          obtain ⟨b_24, h⟩ := h
          refine va_sld hx hb hX hbl hbA hS b_24 d_L_law_177 ?_
          obtain ⟨a_25, e_26, t_27, h⟩ := h
          refine ms_calli (va_runV (As := [.int (xs (Int32.toNatClampNeg ((v3 + 1)))), .long (((((Int32.toInt64 ((xs (Int32.toNatClampNeg ((v3 + 2))))))) <<< ((Int32.toInt64 32) &&& 63))) ||| ((((Int32.toInt64 ((xs (Int32.toNatClampNeg ((v3 + 3))))))) &&& 4294967295))), .long (((((Int32.toInt64 ((xs (Int32.toNatClampNeg ((v3 + 4))))))) <<< ((Int32.toInt64 32) &&& 63))) ||| ((((Int32.toInt64 ((xs (Int32.toNatClampNeg ((v3 + 5))))))) &&& 4294967295))), .int (xs (Int32.toNatClampNeg ((v3 + 6)))), .int (xs (Int32.toNatClampNeg ((v3 + 7))))]) (rest := []) ⟨hx, hb, hml, hown, hts⟩ (mc_X_order l D A σ a_25 ((xs (Int32.toNatClampNeg ((v3 + 1))))) ((((((Int32.toInt64 ((xs (Int32.toNatClampNeg ((v3 + 2))))))) <<< ((Int32.toInt64 32) &&& 63))) ||| ((((Int32.toInt64 ((xs (Int32.toNatClampNeg ((v3 + 3))))))) &&& 4294967295)))) ((((((Int32.toInt64 ((xs (Int32.toNatClampNeg ((v3 + 4))))))) <<< ((Int32.toInt64 32) &&& 63))) ||| ((((Int32.toInt64 ((xs (Int32.toNatClampNeg ((v3 + 5))))))) &&& 4294967295)))) ((xs (Int32.toNatClampNeg ((v3 + 6))))) ((xs (Int32.toNatClampNeg ((v3 + 7))))) _) ⟨(callB_of 5 hts gw_X_order rfl rfl rfl (hts _ wd_1) (hts _ wd_110) (by decide +kernel) ⟨by decide, by decide⟩), (hts _ wd_111), (hts _ wd_112)⟩ ⟨mw_blind, mg_recv hK.1 hH (ci := 0) rfl (cell_0 t_27), fun U hU hW => ⟨rfl, mw_pass hH hK hA hS hU hW, mn_warm hW hn, h⟩⟩ rfl rfl hl.1 (by rw [e_26]; rfl) (lv_room (Nat.le_of_ble_eq_true rfl)) d_L_law_178 ⟨by show (51 + (513 - (n + 1)) * 1) + 1 ≤ 600000; omega, by show (7072 + (513 - (n + 1)) * 11) + 11 ≤ 7302250; omega⟩) hS (fun r_28 σ_29 H locs h hH hK hS => ?_)
          refine W.cs (cells' := (52 + (513 - (n + 1)) * 1)) (slots' := (7083 + (513 - (n + 1)) * 11)) (by omega) (by omega) ?_
          refine mr_aload_n hx hb d_L_law_181 rfl (lv_at hl 2 rfl) ?_
          refine mr_aload_n hx hb d_L_law_182 rfl (lv_at hl 0 rfl) ?_
          refine lv_iload_n hx hb d_L_law_183 rfl (lv_at hl 3 rfl) ?_
          refine lv_iconst (v := 1) hx hb d_L_law_184 (by decide) ?_
          refine lv_iadd hx hb d_L_law_185 ?_
          refine va_sld hx hb hX hbl hbA hS b_18 d_L_law_186 ?_
          refine mr_aload_n hx hb d_L_law_187 rfl (lv_at hl 0 rfl) ?_
          refine lv_iload_n hx hb d_L_law_188 rfl (lv_at hl 3 rfl) ?_
          refine lv_iconst (v := 2) hx hb d_L_law_189 (by decide) ?_
          refine lv_iadd hx hb d_L_law_190 ?_
          refine va_sld hx hb hX hbl hbA hS b_19 d_L_law_191 ?_
          refine lv_i2l hx hb d_L_law_192 rfl ?_
          refine lv_bipush (v := 32) hx hb d_L_law_193 (by decide) ?_
          refine lv_lshl hx hb d_L_law_195 rfl ?_
          refine mr_aload_n hx hb d_L_law_196 rfl (lv_at hl 0 rfl) ?_
          refine lv_iload_n hx hb d_L_law_197 rfl (lv_at hl 3 rfl) ?_
          refine lv_iconst (v := 3) hx hb d_L_law_198 (by decide) ?_
          refine lv_iadd hx hb d_L_law_199 ?_
          refine va_sld hx hb hX hbl hbA hS b_20 d_L_law_200 ?_
          refine lv_i2l hx hb d_L_law_201 rfl ?_
          refine lv_ldc2 (v := 4294967295) hx hb hown (hts _ wd_631) d_L_law_202 ?_
          refine lv_land hx hb d_L_law_205 ?_
          refine lv_lor hx hb d_L_law_206 ?_
          refine mr_aload_n hx hb d_L_law_207 rfl (lv_at hl 0 rfl) ?_
          refine lv_iload_n hx hb d_L_law_208 rfl (lv_at hl 3 rfl) ?_
          refine lv_iconst (v := 4) hx hb d_L_law_209 (by decide) ?_
          refine lv_iadd hx hb d_L_law_210 ?_
          refine va_sld hx hb hX hbl hbA hS b_21 d_L_law_211 ?_
          refine lv_i2l hx hb d_L_law_212 rfl ?_
          refine lv_bipush (v := 32) hx hb d_L_law_213 (by decide) ?_
          refine lv_lshl hx hb d_L_law_215 rfl ?_
          refine mr_aload_n hx hb d_L_law_216 rfl (lv_at hl 0 rfl) ?_
          refine lv_iload_n hx hb d_L_law_217 rfl (lv_at hl 3 rfl) ?_
          refine lv_iconst (v := 5) hx hb d_L_law_218 (by decide) ?_
          refine lv_iadd hx hb d_L_law_219 ?_
          refine va_sld hx hb hX hbl hbA hS b_22 d_L_law_220 ?_
          refine lv_i2l hx hb d_L_law_221 rfl ?_
          refine lv_ldc2 (v := 4294967295) hx hb hown (hts _ wd_631) d_L_law_222 ?_
          refine lv_land hx hb d_L_law_225 ?_
          refine lv_lor hx hb d_L_law_226 ?_
          refine mr_aload_n hx hb d_L_law_227 rfl (lv_at hl 0 rfl) ?_
          refine lv_iload_n hx hb d_L_law_228 rfl (lv_at hl 3 rfl) ?_
          refine lv_bipush (v := 6) hx hb d_L_law_229 (by decide) ?_
          refine lv_iadd hx hb d_L_law_231 ?_
          refine va_sld hx hb hX hbl hbA hS b_23 d_L_law_232 ?_
          refine mr_aload_n hx hb d_L_law_233 rfl (lv_at hl 0 rfl) ?_
          refine lv_iload_n hx hb d_L_law_234 rfl (lv_at hl 3 rfl) ?_
          refine lv_bipush (v := 7) hx hb d_L_law_235 (by decide) ?_
          refine lv_iadd hx hb d_L_law_237 ?_
          refine va_sld hx hb hX hbl hbA hS b_24 d_L_law_238 ?_
          obtain ⟨a_37, e_38, t_39, h⟩ := h
          refine ms_calli (va_runV (As := [.int (xs (Int32.toNatClampNeg ((v3 + 1)))), .long (((((Int32.toInt64 ((xs (Int32.toNatClampNeg ((v3 + 2))))))) <<< ((Int32.toInt64 32) &&& 63))) ||| ((((Int32.toInt64 ((xs (Int32.toNatClampNeg ((v3 + 3))))))) &&& 4294967295))), .long (((((Int32.toInt64 ((xs (Int32.toNatClampNeg ((v3 + 4))))))) <<< ((Int32.toInt64 32) &&& 63))) ||| ((((Int32.toInt64 ((xs (Int32.toNatClampNeg ((v3 + 5))))))) &&& 4294967295))), .int (xs (Int32.toNatClampNeg ((v3 + 6)))), .int (xs (Int32.toNatClampNeg ((v3 + 7))))]) (rest := [.int r_28]) ⟨hx, hb, hml, hown, hts⟩ (mc_M_order l D A σ_29 a_37 ((xs (Int32.toNatClampNeg ((v3 + 1))))) ((((((Int32.toInt64 ((xs (Int32.toNatClampNeg ((v3 + 2))))))) <<< ((Int32.toInt64 32) &&& 63))) ||| ((((Int32.toInt64 ((xs (Int32.toNatClampNeg ((v3 + 3))))))) &&& 4294967295)))) ((((((Int32.toInt64 ((xs (Int32.toNatClampNeg ((v3 + 4))))))) <<< ((Int32.toInt64 32) &&& 63))) ||| ((((Int32.toInt64 ((xs (Int32.toNatClampNeg ((v3 + 5))))))) &&& 4294967295)))) ((xs (Int32.toNatClampNeg ((v3 + 6))))) ((xs (Int32.toNatClampNeg ((v3 + 7))))) _) ⟨(callB_of 5 hts gw_M_order rfl rfl rfl (hts _ wd_4) (hts _ wd_516) (by decide +kernel) ⟨by decide, by decide⟩), (hts _ wd_517), (hts _ wd_518)⟩ ⟨mw_blind, mg_recv hK.1 hH (ci := 1) rfl (cell_1 t_39), fun U hU hW => ⟨rfl, mw_pass hH hK hA hS hU hW, mn_warm hW hn, h⟩⟩ rfl rfl hl.1 (by rw [e_38]; rfl) (lv_room (Nat.le_of_ble_eq_true rfl)) d_L_law_239 ⟨by show (52 + (513 - (n + 1)) * 1) + 0 ≤ 600000; omega, by show (7083 + (513 - (n + 1)) * 11) + 0 ≤ 7302250; omega⟩) hS (fun r_40 σ_41 H locs h hH hK hS => ?_)
          refine W.cs (cells' := (52 + (513 - (n + 1)) * 1)) (slots' := (7083 + (513 - (n + 1)) * 11)) (by omega) (by omega) ?_
          refine lv_icmp_eq (tgt := 1202) hx hb d_L_law_242 (by decide) (fun c_42 => ?_) (fun c_42 => ?_)
          · have h := h.1 c_42
            obtain ⟨x_43, q_44⟩ : ∃ y : Int32, y = v3 + 8 := ⟨_, rfl⟩
            have h := h x_43 q_44
            refine lv_iinc (v := x_43) (lv' := [(3, .int x_43), (0, va_rf (some b)), (1, va_rf v1), (2, va_rf v2)]) hx hb d_L_law_1202 hl (k := 3) rfl (by rw [q_44]; rfl) (by decide) (by simp [List.filter, cat_rf, cat_i, cat_l, cat_r]) (fun ls hl => ?_)
            refine lv_goto (tgt := 18) hx hb d_L_law_1205 (by decide) ?_
            refine W.widen (k := 51 + (513 - n) * 1) (n := 7072 + (513 - n) * 11) (by omega) (by omega) ?_
            exact ih (by omega) _ _ _ _ _ _ _ hH hK hS (lv_sub hl [1, 2, 3, 0] rfl) h
          · have h := h.2 c_42
            refine W.widen (k := 565) (n := 12726) (by omega) (by omega) ?_
            refine lv_iconst (v := 0) hx hb d_L_law_245 (by decide) ?_
            exact h.elim
        · have h := h.2 c_17
          by_cases c_45 : ((((xs (Int32.toNatClampNeg v3))) &&& 31)) = 1
          · have h := h.1 c_45
            refine lv_tableIn (off := 214) (tgt := 247) hx hb d_L_law_33 (by rw [c_45]; decide) (by rw [c_45]; decide) (by rw [c_45]; decide) (by decide) ?_
            refine mr_aload_n hx hb d_L_law_247 rfl (lv_at hl 1 rfl) ?_
            refine mr_aload_n hx hb d_L_law_248 rfl (lv_at hl 0 rfl) ?_
            refine lv_iload_n hx hb d_L_law_249 rfl (lv_at hl 3 rfl) ?_
            refine lv_iconst (v := 1) hx hb d_L_law_250 (by decide) ?_
            refine lv_iadd hx hb d_L_law_251 ?_
            obtain ⟨b_46, h⟩ := h
            refine va_sld hx hb hX hbl hbA hS b_46 d_L_law_252 ?_
            refine mr_aload_n hx hb d_L_law_253 rfl (lv_at hl 0 rfl) ?_
            refine lv_iload_n hx hb d_L_law_254 rfl (lv_at hl 3 rfl) ?_
            refine lv_iconst (v := 2) hx hb d_L_law_255 (by decide) ?_
            refine lv_iadd hx hb d_L_law_256 ?_
            obtain ⟨b_47, h⟩ := h
            refine va_sld hx hb hX hbl hbA hS b_47 d_L_law_257 ?_
            refine lv_i2l hx hb d_L_law_258 rfl ?_
            refine lv_bipush (v := 32) hx hb d_L_law_259 (by decide) ?_
            refine lv_lshl hx hb d_L_law_261 rfl ?_
            refine mr_aload_n hx hb d_L_law_262 rfl (lv_at hl 0 rfl) ?_
            refine lv_iload_n hx hb d_L_law_263 rfl (lv_at hl 3 rfl) ?_
            refine lv_iconst (v := 3) hx hb d_L_law_264 (by decide) ?_
            refine lv_iadd hx hb d_L_law_265 ?_
            obtain ⟨b_48, h⟩ := h
            refine va_sld hx hb hX hbl hbA hS b_48 d_L_law_266 ?_
            refine lv_i2l hx hb d_L_law_267 rfl ?_
            refine lv_ldc2 (v := 4294967295) hx hb hown (hts _ wd_631) d_L_law_268 ?_
            refine lv_land hx hb d_L_law_271 ?_
            refine lv_lor hx hb d_L_law_272 ?_
            refine mr_aload_n hx hb d_L_law_273 rfl (lv_at hl 0 rfl) ?_
            refine lv_iload_n hx hb d_L_law_274 rfl (lv_at hl 3 rfl) ?_
            refine lv_iconst (v := 4) hx hb d_L_law_275 (by decide) ?_
            refine lv_iadd hx hb d_L_law_276 ?_
            obtain ⟨b_49, h⟩ := h
            refine va_sld hx hb hX hbl hbA hS b_49 d_L_law_277 ?_
            refine mr_aload_n hx hb d_L_law_278 rfl (lv_at hl 0 rfl) ?_
            refine lv_iload_n hx hb d_L_law_279 rfl (lv_at hl 3 rfl) ?_
            refine lv_iconst (v := 5) hx hb d_L_law_280 (by decide) ?_
            refine lv_iadd hx hb d_L_law_281 ?_
            obtain ⟨b_50, h⟩ := h
            refine va_sld hx hb hX hbl hbA hS b_50 d_L_law_282 ?_
            refine lv_i2l hx hb d_L_law_283 rfl ?_
            refine lv_bipush (v := 32) hx hb d_L_law_284 (by decide) ?_
            refine lv_lshl hx hb d_L_law_286 rfl ?_
            refine mr_aload_n hx hb d_L_law_287 rfl (lv_at hl 0 rfl) ?_
            refine lv_iload_n hx hb d_L_law_288 rfl (lv_at hl 3 rfl) ?_
            refine lv_bipush (v := 6) hx hb d_L_law_289 (by decide) ?_
            refine lv_iadd hx hb d_L_law_291 ?_
            obtain ⟨b_51, h⟩ := h
            refine va_sld hx hb hX hbl hbA hS b_51 d_L_law_292 ?_
            refine lv_i2l hx hb d_L_law_293 rfl ?_
            refine lv_ldc2 (v := 4294967295) hx hb hown (hts _ wd_631) d_L_law_294 ?_
            refine lv_land hx hb d_L_law_297 ?_
            refine lv_lor hx hb d_L_law_298 ?_
            obtain ⟨a_52, e_53, t_54, h⟩ := h
            refine ms_calli (va_runV (As := [.int (xs (Int32.toNatClampNeg ((v3 + 1)))), .long (((((Int32.toInt64 ((xs (Int32.toNatClampNeg ((v3 + 2))))))) <<< ((Int32.toInt64 32) &&& 63))) ||| ((((Int32.toInt64 ((xs (Int32.toNatClampNeg ((v3 + 3))))))) &&& 4294967295))), .int (xs (Int32.toNatClampNeg ((v3 + 4)))), .long (((((Int32.toInt64 ((xs (Int32.toNatClampNeg ((v3 + 5))))))) <<< ((Int32.toInt64 32) &&& 63))) ||| ((((Int32.toInt64 ((xs (Int32.toNatClampNeg ((v3 + 6))))))) &&& 4294967295)))]) (rest := []) ⟨hx, hb, hml, hown, hts⟩ (mc_X_pay l D A σ a_52 ((xs (Int32.toNatClampNeg ((v3 + 1))))) ((((((Int32.toInt64 ((xs (Int32.toNatClampNeg ((v3 + 2))))))) <<< ((Int32.toInt64 32) &&& 63))) ||| ((((Int32.toInt64 ((xs (Int32.toNatClampNeg ((v3 + 3))))))) &&& 4294967295)))) ((xs (Int32.toNatClampNeg ((v3 + 4))))) ((((((Int32.toInt64 ((xs (Int32.toNatClampNeg ((v3 + 5))))))) <<< ((Int32.toInt64 32) &&& 63))) ||| ((((Int32.toInt64 ((xs (Int32.toNatClampNeg ((v3 + 6))))))) &&& 4294967295)))) _) ⟨(callB_of 4 hts gw_X_pay rfl rfl rfl (hts _ wd_1) (hts _ wd_184) (by decide +kernel) ⟨by decide, by decide⟩), (hts _ wd_185), (hts _ wd_186)⟩ ⟨mw_blind, mg_recv hK.1 hH (ci := 0) rfl (cell_0 t_54), fun U hU hW => ⟨rfl, mw_pass hH hK hA hS hU hW, mn_warm hW hn, h⟩⟩ rfl rfl hl.1 (by rw [e_53]; rfl) (lv_room (Nat.le_of_ble_eq_true rfl)) d_L_law_299 ⟨by show (51 + (513 - (n + 1)) * 1) + 0 ≤ 600000; omega, by show (7072 + (513 - (n + 1)) * 11) + 0 ≤ 7302250; omega⟩) hS (fun r_55 σ_56 H locs h hH hK hS => ?_)
            refine W.cs (cells' := (51 + (513 - (n + 1)) * 1)) (slots' := (7072 + (513 - (n + 1)) * 11)) (by omega) (by omega) ?_
            refine mr_aload_n hx hb d_L_law_302 rfl (lv_at hl 2 rfl) ?_
            refine mr_aload_n hx hb d_L_law_303 rfl (lv_at hl 0 rfl) ?_
            refine lv_iload_n hx hb d_L_law_304 rfl (lv_at hl 3 rfl) ?_
            refine lv_iconst (v := 1) hx hb d_L_law_305 (by decide) ?_
            refine lv_iadd hx hb d_L_law_306 ?_
            refine va_sld hx hb hX hbl hbA hS b_46 d_L_law_307 ?_
            refine mr_aload_n hx hb d_L_law_308 rfl (lv_at hl 0 rfl) ?_
            refine lv_iload_n hx hb d_L_law_309 rfl (lv_at hl 3 rfl) ?_
            refine lv_iconst (v := 2) hx hb d_L_law_310 (by decide) ?_
            refine lv_iadd hx hb d_L_law_311 ?_
            refine va_sld hx hb hX hbl hbA hS b_47 d_L_law_312 ?_
            refine lv_i2l hx hb d_L_law_313 rfl ?_
            refine lv_bipush (v := 32) hx hb d_L_law_314 (by decide) ?_
            refine lv_lshl hx hb d_L_law_316 rfl ?_
            refine mr_aload_n hx hb d_L_law_317 rfl (lv_at hl 0 rfl) ?_
            refine lv_iload_n hx hb d_L_law_318 rfl (lv_at hl 3 rfl) ?_
            refine lv_iconst (v := 3) hx hb d_L_law_319 (by decide) ?_
            refine lv_iadd hx hb d_L_law_320 ?_
            refine va_sld hx hb hX hbl hbA hS b_48 d_L_law_321 ?_
            refine lv_i2l hx hb d_L_law_322 rfl ?_
            refine lv_ldc2 (v := 4294967295) hx hb hown (hts _ wd_631) d_L_law_323 ?_
            refine lv_land hx hb d_L_law_326 ?_
            refine lv_lor hx hb d_L_law_327 ?_
            refine mr_aload_n hx hb d_L_law_328 rfl (lv_at hl 0 rfl) ?_
            refine lv_iload_n hx hb d_L_law_329 rfl (lv_at hl 3 rfl) ?_
            refine lv_iconst (v := 4) hx hb d_L_law_330 (by decide) ?_
            refine lv_iadd hx hb d_L_law_331 ?_
            refine va_sld hx hb hX hbl hbA hS b_49 d_L_law_332 ?_
            refine mr_aload_n hx hb d_L_law_333 rfl (lv_at hl 0 rfl) ?_
            refine lv_iload_n hx hb d_L_law_334 rfl (lv_at hl 3 rfl) ?_
            refine lv_iconst (v := 5) hx hb d_L_law_335 (by decide) ?_
            refine lv_iadd hx hb d_L_law_336 ?_
            refine va_sld hx hb hX hbl hbA hS b_50 d_L_law_337 ?_
            refine lv_i2l hx hb d_L_law_338 rfl ?_
            refine lv_bipush (v := 32) hx hb d_L_law_339 (by decide) ?_
            refine lv_lshl hx hb d_L_law_341 rfl ?_
            refine mr_aload_n hx hb d_L_law_342 rfl (lv_at hl 0 rfl) ?_
            refine lv_iload_n hx hb d_L_law_343 rfl (lv_at hl 3 rfl) ?_
            refine lv_bipush (v := 6) hx hb d_L_law_344 (by decide) ?_
            refine lv_iadd hx hb d_L_law_346 ?_
            refine va_sld hx hb hX hbl hbA hS b_51 d_L_law_347 ?_
            refine lv_i2l hx hb d_L_law_348 rfl ?_
            refine lv_ldc2 (v := 4294967295) hx hb hown (hts _ wd_631) d_L_law_349 ?_
            refine lv_land hx hb d_L_law_352 ?_
            refine lv_lor hx hb d_L_law_353 ?_
            obtain ⟨a_63, e_64, t_65, h⟩ := h
            refine ms_calli (va_runV (As := [.int (xs (Int32.toNatClampNeg ((v3 + 1)))), .long (((((Int32.toInt64 ((xs (Int32.toNatClampNeg ((v3 + 2))))))) <<< ((Int32.toInt64 32) &&& 63))) ||| ((((Int32.toInt64 ((xs (Int32.toNatClampNeg ((v3 + 3))))))) &&& 4294967295))), .int (xs (Int32.toNatClampNeg ((v3 + 4)))), .long (((((Int32.toInt64 ((xs (Int32.toNatClampNeg ((v3 + 5))))))) <<< ((Int32.toInt64 32) &&& 63))) ||| ((((Int32.toInt64 ((xs (Int32.toNatClampNeg ((v3 + 6))))))) &&& 4294967295)))]) (rest := [.int r_55]) ⟨hx, hb, hml, hown, hts⟩ (mc_M_pay l D A σ_56 a_63 ((xs (Int32.toNatClampNeg ((v3 + 1))))) ((((((Int32.toInt64 ((xs (Int32.toNatClampNeg ((v3 + 2))))))) <<< ((Int32.toInt64 32) &&& 63))) ||| ((((Int32.toInt64 ((xs (Int32.toNatClampNeg ((v3 + 3))))))) &&& 4294967295)))) ((xs (Int32.toNatClampNeg ((v3 + 4))))) ((((((Int32.toInt64 ((xs (Int32.toNatClampNeg ((v3 + 5))))))) <<< ((Int32.toInt64 32) &&& 63))) ||| ((((Int32.toInt64 ((xs (Int32.toNatClampNeg ((v3 + 6))))))) &&& 4294967295)))) _) ⟨(callB_of 4 hts gw_M_pay rfl rfl rfl (hts _ wd_4) (hts _ wd_536) (by decide +kernel) ⟨by decide, by decide⟩), (hts _ wd_537), (hts _ wd_538)⟩ ⟨mw_blind, mg_recv hK.1 hH (ci := 1) rfl (cell_1 t_65), fun U hU hW => ⟨rfl, mw_pass hH hK hA hS hU hW, mn_warm hW hn, h⟩⟩ rfl rfl hl.1 (by rw [e_64]; rfl) (lv_room (Nat.le_of_ble_eq_true rfl)) d_L_law_354 ⟨by show (51 + (513 - (n + 1)) * 1) + 0 ≤ 600000; omega, by show (7072 + (513 - (n + 1)) * 11) + 0 ≤ 7302250; omega⟩) hS (fun r_66 σ_67 H locs h hH hK hS => ?_)
            refine W.cs (cells' := (51 + (513 - (n + 1)) * 1)) (slots' := (7072 + (513 - (n + 1)) * 11)) (by omega) (by omega) ?_
            refine lv_icmp_eq (tgt := 1202) hx hb d_L_law_357 (by decide) (fun c_68 => ?_) (fun c_68 => ?_)
            · have h := h.1 c_68
              obtain ⟨x_69, q_70⟩ : ∃ y : Int32, y = v3 + 8 := ⟨_, rfl⟩
              have h := h x_69 q_70
              refine lv_iinc (v := x_69) (lv' := [(3, .int x_69), (0, va_rf (some b)), (1, va_rf v1), (2, va_rf v2)]) hx hb d_L_law_1202 hl (k := 3) rfl (by rw [q_70]; rfl) (by decide) (by simp [List.filter, cat_rf, cat_i, cat_l, cat_r]) (fun ls hl => ?_)
              refine lv_goto (tgt := 18) hx hb d_L_law_1205 (by decide) ?_
              refine W.widen (k := 51 + (513 - n) * 1) (n := 7072 + (513 - n) * 11) (by omega) (by omega) ?_
              exact ih (by omega) _ _ _ _ _ _ _ hH hK hS (lv_sub hl [1, 2, 3, 0] rfl) h
            · have h := h.2 c_68
              refine W.widen (k := 564) (n := 12715) (by omega) (by omega) ?_
              refine lv_iconst (v := 0) hx hb d_L_law_360 (by decide) ?_
              exact h.elim
          · have h := h.2 c_45
            by_cases c_71 : ((((xs (Int32.toNatClampNeg v3))) &&& 31)) = 2
            · have h := h.1 c_71
              refine lv_tableIn (off := 329) (tgt := 362) hx hb d_L_law_33 (by rw [c_71]; decide) (by rw [c_71]; decide) (by rw [c_71]; decide) (by decide) ?_
              refine mr_aload_n hx hb d_L_law_362 rfl (lv_at hl 1 rfl) ?_
              refine mr_aload_n hx hb d_L_law_363 rfl (lv_at hl 0 rfl) ?_
              refine lv_iload_n hx hb d_L_law_364 rfl (lv_at hl 3 rfl) ?_
              refine lv_iconst (v := 1) hx hb d_L_law_365 (by decide) ?_
              refine lv_iadd hx hb d_L_law_366 ?_
              obtain ⟨b_72, h⟩ := h
              refine va_sld hx hb hX hbl hbA hS b_72 d_L_law_367 ?_
              refine mr_aload_n hx hb d_L_law_368 rfl (lv_at hl 0 rfl) ?_
              refine lv_iload_n hx hb d_L_law_369 rfl (lv_at hl 3 rfl) ?_
              refine lv_iconst (v := 2) hx hb d_L_law_370 (by decide) ?_
              refine lv_iadd hx hb d_L_law_371 ?_
              obtain ⟨b_73, h⟩ := h
              refine va_sld hx hb hX hbl hbA hS b_73 d_L_law_372 ?_
              obtain ⟨a_74, e_75, t_76, h⟩ := h
              refine ms_calli (va_runV (As := [.int (xs (Int32.toNatClampNeg ((v3 + 1)))), .int (xs (Int32.toNatClampNeg ((v3 + 2))))]) (rest := []) ⟨hx, hb, hml, hown, hts⟩ (mc_X_fails l D A σ a_74 ((xs (Int32.toNatClampNeg ((v3 + 1))))) ((xs (Int32.toNatClampNeg ((v3 + 2))))) _) ⟨(callB_of 2 hts gw_X_fails rfl rfl rfl (hts _ wd_1) (hts _ wd_248) (by decide +kernel) ⟨by decide, by decide⟩), (hts _ wd_249), (hts _ wd_250)⟩ ⟨mw_blind, mg_recv hK.1 hH (ci := 0) rfl (cell_0 t_76), fun U hU hW => ⟨rfl, mw_pass hH hK hA hS hU hW, mn_warm hW hn, h⟩⟩ rfl rfl hl.1 (by rw [e_75]; rfl) (lv_room (Nat.le_of_ble_eq_true rfl)) d_L_law_373 ⟨by show (51 + (513 - (n + 1)) * 1) + 0 ≤ 600000; omega, by show (7072 + (513 - (n + 1)) * 11) + 0 ≤ 7302250; omega⟩) hS (fun r_77 σ_78 H locs h hH hK hS => ?_)
              refine W.cs (cells' := (51 + (513 - (n + 1)) * 1)) (slots' := (7072 + (513 - (n + 1)) * 11)) (by omega) (by omega) ?_
              refine mr_aload_n hx hb d_L_law_376 rfl (lv_at hl 2 rfl) ?_
              refine mr_aload_n hx hb d_L_law_377 rfl (lv_at hl 0 rfl) ?_
              refine lv_iload_n hx hb d_L_law_378 rfl (lv_at hl 3 rfl) ?_
              refine lv_iconst (v := 1) hx hb d_L_law_379 (by decide) ?_
              refine lv_iadd hx hb d_L_law_380 ?_
              refine va_sld hx hb hX hbl hbA hS b_72 d_L_law_381 ?_
              refine mr_aload_n hx hb d_L_law_382 rfl (lv_at hl 0 rfl) ?_
              refine lv_iload_n hx hb d_L_law_383 rfl (lv_at hl 3 rfl) ?_
              refine lv_iconst (v := 2) hx hb d_L_law_384 (by decide) ?_
              refine lv_iadd hx hb d_L_law_385 ?_
              refine va_sld hx hb hX hbl hbA hS b_73 d_L_law_386 ?_
              obtain ⟨a_81, e_82, t_83, h⟩ := h
              refine ms_calli (va_runV (As := [.int (xs (Int32.toNatClampNeg ((v3 + 1)))), .int (xs (Int32.toNatClampNeg ((v3 + 2))))]) (rest := [.int r_77]) ⟨hx, hb, hml, hown, hts⟩ (mc_M_fails l D A σ_78 a_81 ((xs (Int32.toNatClampNeg ((v3 + 1))))) ((xs (Int32.toNatClampNeg ((v3 + 2))))) _) ⟨(callB_of 2 hts gw_M_fails rfl rfl rfl (hts _ wd_4) (hts _ wd_553) (by decide +kernel) ⟨by decide, by decide⟩), (hts _ wd_554), (hts _ wd_555)⟩ ⟨mw_blind, mg_recv hK.1 hH (ci := 1) rfl (cell_1 t_83), fun U hU hW => ⟨rfl, mw_pass hH hK hA hS hU hW, mn_warm hW hn, h⟩⟩ rfl rfl hl.1 (by rw [e_82]; rfl) (lv_room (Nat.le_of_ble_eq_true rfl)) d_L_law_387 ⟨by show (51 + (513 - (n + 1)) * 1) + 0 ≤ 600000; omega, by show (7072 + (513 - (n + 1)) * 11) + 0 ≤ 7302250; omega⟩) hS (fun r_84 σ_85 H locs h hH hK hS => ?_)
              refine W.cs (cells' := (51 + (513 - (n + 1)) * 1)) (slots' := (7072 + (513 - (n + 1)) * 11)) (by omega) (by omega) ?_
              refine lv_icmp_eq (tgt := 1202) hx hb d_L_law_390 (by decide) (fun c_86 => ?_) (fun c_86 => ?_)
              · have h := h.1 c_86
                obtain ⟨x_87, q_88⟩ : ∃ y : Int32, y = v3 + 8 := ⟨_, rfl⟩
                have h := h x_87 q_88
                refine lv_iinc (v := x_87) (lv' := [(3, .int x_87), (0, va_rf (some b)), (1, va_rf v1), (2, va_rf v2)]) hx hb d_L_law_1202 hl (k := 3) rfl (by rw [q_88]; rfl) (by decide) (by simp [List.filter, cat_rf, cat_i, cat_l, cat_r]) (fun ls hl => ?_)
                refine lv_goto (tgt := 18) hx hb d_L_law_1205 (by decide) ?_
                refine W.widen (k := 51 + (513 - n) * 1) (n := 7072 + (513 - n) * 11) (by omega) (by omega) ?_
                exact ih (by omega) _ _ _ _ _ _ _ hH hK hS (lv_sub hl [1, 2, 3, 0] rfl) h
              · have h := h.2 c_86
                refine W.widen (k := 564) (n := 12715) (by omega) (by omega) ?_
                refine lv_iconst (v := 0) hx hb d_L_law_393 (by decide) ?_
                exact h.elim
            · have h := h.2 c_71
              by_cases c_89 : ((((xs (Int32.toNatClampNeg v3))) &&& 31)) = 3
              · have h := h.1 c_89
                refine lv_tableIn (off := 362) (tgt := 395) hx hb d_L_law_33 (by rw [c_89]; decide) (by rw [c_89]; decide) (by rw [c_89]; decide) (by decide) ?_
                refine mr_aload_n hx hb d_L_law_395 rfl (lv_at hl 1 rfl) ?_
                refine mr_aload_n hx hb d_L_law_396 rfl (lv_at hl 0 rfl) ?_
                refine lv_iload_n hx hb d_L_law_397 rfl (lv_at hl 3 rfl) ?_
                refine lv_iconst (v := 1) hx hb d_L_law_398 (by decide) ?_
                refine lv_iadd hx hb d_L_law_399 ?_
                obtain ⟨b_90, h⟩ := h
                refine va_sld hx hb hX hbl hbA hS b_90 d_L_law_400 ?_
                refine mr_aload_n hx hb d_L_law_401 rfl (lv_at hl 0 rfl) ?_
                refine lv_iload_n hx hb d_L_law_402 rfl (lv_at hl 3 rfl) ?_
                refine lv_iconst (v := 2) hx hb d_L_law_403 (by decide) ?_
                refine lv_iadd hx hb d_L_law_404 ?_
                obtain ⟨b_91, h⟩ := h
                refine va_sld hx hb hX hbl hbA hS b_91 d_L_law_405 ?_
                refine lv_i2l hx hb d_L_law_406 rfl ?_
                refine lv_bipush (v := 32) hx hb d_L_law_407 (by decide) ?_
                refine lv_lshl hx hb d_L_law_409 rfl ?_
                refine mr_aload_n hx hb d_L_law_410 rfl (lv_at hl 0 rfl) ?_
                refine lv_iload_n hx hb d_L_law_411 rfl (lv_at hl 3 rfl) ?_
                refine lv_iconst (v := 3) hx hb d_L_law_412 (by decide) ?_
                refine lv_iadd hx hb d_L_law_413 ?_
                obtain ⟨b_92, h⟩ := h
                refine va_sld hx hb hX hbl hbA hS b_92 d_L_law_414 ?_
                refine lv_i2l hx hb d_L_law_415 rfl ?_
                refine lv_ldc2 (v := 4294967295) hx hb hown (hts _ wd_631) d_L_law_416 ?_
                refine lv_land hx hb d_L_law_419 ?_
                refine lv_lor hx hb d_L_law_420 ?_
                refine mr_aload_n hx hb d_L_law_421 rfl (lv_at hl 0 rfl) ?_
                refine lv_iload_n hx hb d_L_law_422 rfl (lv_at hl 3 rfl) ?_
                refine lv_iconst (v := 4) hx hb d_L_law_423 (by decide) ?_
                refine lv_iadd hx hb d_L_law_424 ?_
                obtain ⟨b_93, h⟩ := h
                refine va_sld hx hb hX hbl hbA hS b_93 d_L_law_425 ?_
                refine mr_aload_n hx hb d_L_law_426 rfl (lv_at hl 0 rfl) ?_
                refine lv_iload_n hx hb d_L_law_427 rfl (lv_at hl 3 rfl) ?_
                refine lv_iconst (v := 5) hx hb d_L_law_428 (by decide) ?_
                refine lv_iadd hx hb d_L_law_429 ?_
                obtain ⟨b_94, h⟩ := h
                refine va_sld hx hb hX hbl hbA hS b_94 d_L_law_430 ?_
                refine lv_i2l hx hb d_L_law_431 rfl ?_
                refine lv_bipush (v := 32) hx hb d_L_law_432 (by decide) ?_
                refine lv_lshl hx hb d_L_law_434 rfl ?_
                refine mr_aload_n hx hb d_L_law_435 rfl (lv_at hl 0 rfl) ?_
                refine lv_iload_n hx hb d_L_law_436 rfl (lv_at hl 3 rfl) ?_
                refine lv_bipush (v := 6) hx hb d_L_law_437 (by decide) ?_
                refine lv_iadd hx hb d_L_law_439 ?_
                obtain ⟨b_95, h⟩ := h
                refine va_sld hx hb hX hbl hbA hS b_95 d_L_law_440 ?_
                refine lv_i2l hx hb d_L_law_441 rfl ?_
                refine lv_ldc2 (v := 4294967295) hx hb hown (hts _ wd_631) d_L_law_442 ?_
                refine lv_land hx hb d_L_law_445 ?_
                refine lv_lor hx hb d_L_law_446 ?_
                obtain ⟨a_96, e_97, t_98, h⟩ := h
                refine ms_calli (va_runV (As := [.int (xs (Int32.toNatClampNeg ((v3 + 1)))), .long (((((Int32.toInt64 ((xs (Int32.toNatClampNeg ((v3 + 2))))))) <<< ((Int32.toInt64 32) &&& 63))) ||| ((((Int32.toInt64 ((xs (Int32.toNatClampNeg ((v3 + 3))))))) &&& 4294967295))), .int (xs (Int32.toNatClampNeg ((v3 + 4)))), .long (((((Int32.toInt64 ((xs (Int32.toNatClampNeg ((v3 + 5))))))) <<< ((Int32.toInt64 32) &&& 63))) ||| ((((Int32.toInt64 ((xs (Int32.toNatClampNeg ((v3 + 6))))))) &&& 4294967295)))]) (rest := []) ⟨hx, hb, hml, hown, hts⟩ (mc_X_ask l D A σ a_96 ((xs (Int32.toNatClampNeg ((v3 + 1))))) ((((((Int32.toInt64 ((xs (Int32.toNatClampNeg ((v3 + 2))))))) <<< ((Int32.toInt64 32) &&& 63))) ||| ((((Int32.toInt64 ((xs (Int32.toNatClampNeg ((v3 + 3))))))) &&& 4294967295)))) ((xs (Int32.toNatClampNeg ((v3 + 4))))) ((((((Int32.toInt64 ((xs (Int32.toNatClampNeg ((v3 + 5))))))) <<< ((Int32.toInt64 32) &&& 63))) ||| ((((Int32.toInt64 ((xs (Int32.toNatClampNeg ((v3 + 6))))))) &&& 4294967295)))) _) ⟨(callB_of 4 hts gw_X_ask rfl rfl rfl (hts _ wd_1) (hts _ wd_256) (by decide +kernel) ⟨by decide, by decide⟩), (hts _ wd_257), (hts _ wd_258)⟩ ⟨mw_blind, mg_recv hK.1 hH (ci := 0) rfl (cell_0 t_98), fun U hU hW => ⟨rfl, mw_pass hH hK hA hS hU hW, mn_warm hW hn, h⟩⟩ rfl rfl hl.1 (by rw [e_97]; rfl) (lv_room (Nat.le_of_ble_eq_true rfl)) d_L_law_447 ⟨by show (51 + (513 - (n + 1)) * 1) + 1 ≤ 600000; omega, by show (7072 + (513 - (n + 1)) * 11) + 5 ≤ 7302250; omega⟩) hS (fun r_99 σ_100 H locs h hH hK hS => ?_)
                refine W.cs (cells' := (52 + (513 - (n + 1)) * 1)) (slots' := (7077 + (513 - (n + 1)) * 11)) (by omega) (by omega) ?_
                refine mr_aload_n hx hb d_L_law_450 rfl (lv_at hl 2 rfl) ?_
                refine mr_aload_n hx hb d_L_law_451 rfl (lv_at hl 0 rfl) ?_
                refine lv_iload_n hx hb d_L_law_452 rfl (lv_at hl 3 rfl) ?_
                refine lv_iconst (v := 1) hx hb d_L_law_453 (by decide) ?_
                refine lv_iadd hx hb d_L_law_454 ?_
                refine va_sld hx hb hX hbl hbA hS b_90 d_L_law_455 ?_
                refine mr_aload_n hx hb d_L_law_456 rfl (lv_at hl 0 rfl) ?_
                refine lv_iload_n hx hb d_L_law_457 rfl (lv_at hl 3 rfl) ?_
                refine lv_iconst (v := 2) hx hb d_L_law_458 (by decide) ?_
                refine lv_iadd hx hb d_L_law_459 ?_
                refine va_sld hx hb hX hbl hbA hS b_91 d_L_law_460 ?_
                refine lv_i2l hx hb d_L_law_461 rfl ?_
                refine lv_bipush (v := 32) hx hb d_L_law_462 (by decide) ?_
                refine lv_lshl hx hb d_L_law_464 rfl ?_
                refine mr_aload_n hx hb d_L_law_465 rfl (lv_at hl 0 rfl) ?_
                refine lv_iload_n hx hb d_L_law_466 rfl (lv_at hl 3 rfl) ?_
                refine lv_iconst (v := 3) hx hb d_L_law_467 (by decide) ?_
                refine lv_iadd hx hb d_L_law_468 ?_
                refine va_sld hx hb hX hbl hbA hS b_92 d_L_law_469 ?_
                refine lv_i2l hx hb d_L_law_470 rfl ?_
                refine lv_ldc2 (v := 4294967295) hx hb hown (hts _ wd_631) d_L_law_471 ?_
                refine lv_land hx hb d_L_law_474 ?_
                refine lv_lor hx hb d_L_law_475 ?_
                refine mr_aload_n hx hb d_L_law_476 rfl (lv_at hl 0 rfl) ?_
                refine lv_iload_n hx hb d_L_law_477 rfl (lv_at hl 3 rfl) ?_
                refine lv_iconst (v := 4) hx hb d_L_law_478 (by decide) ?_
                refine lv_iadd hx hb d_L_law_479 ?_
                refine va_sld hx hb hX hbl hbA hS b_93 d_L_law_480 ?_
                refine mr_aload_n hx hb d_L_law_481 rfl (lv_at hl 0 rfl) ?_
                refine lv_iload_n hx hb d_L_law_482 rfl (lv_at hl 3 rfl) ?_
                refine lv_iconst (v := 5) hx hb d_L_law_483 (by decide) ?_
                refine lv_iadd hx hb d_L_law_484 ?_
                refine va_sld hx hb hX hbl hbA hS b_94 d_L_law_485 ?_
                refine lv_i2l hx hb d_L_law_486 rfl ?_
                refine lv_bipush (v := 32) hx hb d_L_law_487 (by decide) ?_
                refine lv_lshl hx hb d_L_law_489 rfl ?_
                refine mr_aload_n hx hb d_L_law_490 rfl (lv_at hl 0 rfl) ?_
                refine lv_iload_n hx hb d_L_law_491 rfl (lv_at hl 3 rfl) ?_
                refine lv_bipush (v := 6) hx hb d_L_law_492 (by decide) ?_
                refine lv_iadd hx hb d_L_law_494 ?_
                refine va_sld hx hb hX hbl hbA hS b_95 d_L_law_495 ?_
                refine lv_i2l hx hb d_L_law_496 rfl ?_
                refine lv_ldc2 (v := 4294967295) hx hb hown (hts _ wd_631) d_L_law_497 ?_
                refine lv_land hx hb d_L_law_500 ?_
                refine lv_lor hx hb d_L_law_501 ?_
                obtain ⟨a_107, e_108, t_109, h⟩ := h
                refine ms_calli (va_runV (As := [.int (xs (Int32.toNatClampNeg ((v3 + 1)))), .long (((((Int32.toInt64 ((xs (Int32.toNatClampNeg ((v3 + 2))))))) <<< ((Int32.toInt64 32) &&& 63))) ||| ((((Int32.toInt64 ((xs (Int32.toNatClampNeg ((v3 + 3))))))) &&& 4294967295))), .int (xs (Int32.toNatClampNeg ((v3 + 4)))), .long (((((Int32.toInt64 ((xs (Int32.toNatClampNeg ((v3 + 5))))))) <<< ((Int32.toInt64 32) &&& 63))) ||| ((((Int32.toInt64 ((xs (Int32.toNatClampNeg ((v3 + 6))))))) &&& 4294967295)))]) (rest := [.int r_99]) ⟨hx, hb, hml, hown, hts⟩ (mc_M_ask l D A σ_100 a_107 ((xs (Int32.toNatClampNeg ((v3 + 1))))) ((((((Int32.toInt64 ((xs (Int32.toNatClampNeg ((v3 + 2))))))) <<< ((Int32.toInt64 32) &&& 63))) ||| ((((Int32.toInt64 ((xs (Int32.toNatClampNeg ((v3 + 3))))))) &&& 4294967295)))) ((xs (Int32.toNatClampNeg ((v3 + 4))))) ((((((Int32.toInt64 ((xs (Int32.toNatClampNeg ((v3 + 5))))))) <<< ((Int32.toInt64 32) &&& 63))) ||| ((((Int32.toInt64 ((xs (Int32.toNatClampNeg ((v3 + 6))))))) &&& 4294967295)))) _) ⟨(callB_of 4 hts gw_M_ask rfl rfl rfl (hts _ wd_4) (hts _ wd_558) (by decide +kernel) ⟨by decide, by decide⟩), (hts _ wd_559), (hts _ wd_560)⟩ ⟨mw_blind, mg_recv hK.1 hH (ci := 1) rfl (cell_1 t_109), fun U hU hW => ⟨rfl, mw_pass hH hK hA hS hU hW, mn_warm hW hn, h⟩⟩ rfl rfl hl.1 (by rw [e_108]; rfl) (lv_room (Nat.le_of_ble_eq_true rfl)) d_L_law_502 ⟨by show (52 + (513 - (n + 1)) * 1) + 0 ≤ 600000; omega, by show (7077 + (513 - (n + 1)) * 11) + 0 ≤ 7302250; omega⟩) hS (fun r_110 σ_111 H locs h hH hK hS => ?_)
                refine W.cs (cells' := (52 + (513 - (n + 1)) * 1)) (slots' := (7077 + (513 - (n + 1)) * 11)) (by omega) (by omega) ?_
                refine lv_icmp_eq (tgt := 1202) hx hb d_L_law_505 (by decide) (fun c_112 => ?_) (fun c_112 => ?_)
                · have h := h.1 c_112
                  obtain ⟨x_113, q_114⟩ : ∃ y : Int32, y = v3 + 8 := ⟨_, rfl⟩
                  have h := h x_113 q_114
                  refine lv_iinc (v := x_113) (lv' := [(3, .int x_113), (0, va_rf (some b)), (1, va_rf v1), (2, va_rf v2)]) hx hb d_L_law_1202 hl (k := 3) rfl (by rw [q_114]; rfl) (by decide) (by simp [List.filter, cat_rf, cat_i, cat_l, cat_r]) (fun ls hl => ?_)
                  refine lv_goto (tgt := 18) hx hb d_L_law_1205 (by decide) ?_
                  refine W.widen (k := 51 + (513 - n) * 1) (n := 7072 + (513 - n) * 11) (by omega) (by omega) ?_
                  exact ih (by omega) _ _ _ _ _ _ _ hH hK hS (lv_sub hl [1, 2, 3, 0] rfl) h
                · have h := h.2 c_112
                  refine W.widen (k := 565) (n := 12720) (by omega) (by omega) ?_
                  refine lv_iconst (v := 0) hx hb d_L_law_508 (by decide) ?_
                  exact h.elim
              · have h := h.2 c_89
                by_cases c_115 : ((((xs (Int32.toNatClampNeg v3))) &&& 31)) = 4
                · have h := h.1 c_115
                  refine lv_tableIn (off := 477) (tgt := 510) hx hb d_L_law_33 (by rw [c_115]; decide) (by rw [c_115]; decide) (by rw [c_115]; decide) (by decide) ?_
                  refine mr_aload_n hx hb d_L_law_510 rfl (lv_at hl 1 rfl) ?_
                  refine mr_aload_n hx hb d_L_law_511 rfl (lv_at hl 0 rfl) ?_
                  refine lv_iload_n hx hb d_L_law_512 rfl (lv_at hl 3 rfl) ?_
                  refine lv_iconst (v := 1) hx hb d_L_law_513 (by decide) ?_
                  refine lv_iadd hx hb d_L_law_514 ?_
                  obtain ⟨b_116, h⟩ := h
                  refine va_sld hx hb hX hbl hbA hS b_116 d_L_law_515 ?_
                  obtain ⟨a_117, e_118, t_119, h⟩ := h
                  refine ms_calli (va_runV (As := [.int (xs (Int32.toNatClampNeg ((v3 + 1))))]) (rest := []) ⟨hx, hb, hml, hown, hts⟩ (mc_X_serve l D A σ a_117 ((xs (Int32.toNatClampNeg ((v3 + 1))))) _) ⟨(callB_of 1 hts gw_X_serve rfl rfl rfl (hts _ wd_1) (hts _ wd_292) (by decide +kernel) ⟨by decide, by decide⟩), (hts _ wd_293), (hts _ wd_294)⟩ ⟨mw_blind, mg_recv hK.1 hH (ci := 0) rfl (cell_0 t_119), fun U hU hW => ⟨rfl, mw_pass hH hK hA hS hU hW, mn_warm hW hn, h⟩⟩ rfl rfl hl.1 (by rw [e_118]; rfl) (lv_room (Nat.le_of_ble_eq_true rfl)) d_L_law_516 ⟨by show (51 + (513 - (n + 1)) * 1) + 0 ≤ 600000; omega, by show (7072 + (513 - (n + 1)) * 11) + 0 ≤ 7302250; omega⟩) hS (fun r_120 σ_121 H locs h hH hK hS => ?_)
                  refine W.cs (cells' := (51 + (513 - (n + 1)) * 1)) (slots' := (7072 + (513 - (n + 1)) * 11)) (by omega) (by omega) ?_
                  refine mr_aload_n hx hb d_L_law_519 rfl (lv_at hl 2 rfl) ?_
                  refine mr_aload_n hx hb d_L_law_520 rfl (lv_at hl 0 rfl) ?_
                  refine lv_iload_n hx hb d_L_law_521 rfl (lv_at hl 3 rfl) ?_
                  refine lv_iconst (v := 1) hx hb d_L_law_522 (by decide) ?_
                  refine lv_iadd hx hb d_L_law_523 ?_
                  refine va_sld hx hb hX hbl hbA hS b_116 d_L_law_524 ?_
                  obtain ⟨a_123, e_124, t_125, h⟩ := h
                  refine ms_calli (va_runV (As := [.int (xs (Int32.toNatClampNeg ((v3 + 1))))]) (rest := [.int r_120]) ⟨hx, hb, hml, hown, hts⟩ (mc_M_serve l D A σ_121 a_123 ((xs (Int32.toNatClampNeg ((v3 + 1))))) _) ⟨(callB_of 1 hts gw_M_serve rfl rfl rfl (hts _ wd_4) (hts _ wd_562) (by decide +kernel) ⟨by decide, by decide⟩), (hts _ wd_563), (hts _ wd_564)⟩ ⟨mw_blind, mg_recv hK.1 hH (ci := 1) rfl (cell_1 t_125), fun U hU hW => ⟨rfl, mw_pass hH hK hA hS hU hW, mn_warm hW hn, h⟩⟩ rfl rfl hl.1 (by rw [e_124]; rfl) (lv_room (Nat.le_of_ble_eq_true rfl)) d_L_law_525 ⟨by show (51 + (513 - (n + 1)) * 1) + 0 ≤ 600000; omega, by show (7072 + (513 - (n + 1)) * 11) + 0 ≤ 7302250; omega⟩) hS (fun r_126 σ_127 H locs h hH hK hS => ?_)
                  refine W.cs (cells' := (51 + (513 - (n + 1)) * 1)) (slots' := (7072 + (513 - (n + 1)) * 11)) (by omega) (by omega) ?_
                  refine lv_icmp_eq (tgt := 1202) hx hb d_L_law_528 (by decide) (fun c_128 => ?_) (fun c_128 => ?_)
                  · have h := h.1 c_128
                    obtain ⟨x_129, q_130⟩ : ∃ y : Int32, y = v3 + 8 := ⟨_, rfl⟩
                    have h := h x_129 q_130
                    refine lv_iinc (v := x_129) (lv' := [(3, .int x_129), (0, va_rf (some b)), (1, va_rf v1), (2, va_rf v2)]) hx hb d_L_law_1202 hl (k := 3) rfl (by rw [q_130]; rfl) (by decide) (by simp [List.filter, cat_rf, cat_i, cat_l, cat_r]) (fun ls hl => ?_)
                    refine lv_goto (tgt := 18) hx hb d_L_law_1205 (by decide) ?_
                    refine W.widen (k := 51 + (513 - n) * 1) (n := 7072 + (513 - n) * 11) (by omega) (by omega) ?_
                    exact ih (by omega) _ _ _ _ _ _ _ hH hK hS (lv_sub hl [1, 2, 3, 0] rfl) h
                  · have h := h.2 c_128
                    refine W.widen (k := 564) (n := 12715) (by omega) (by omega) ?_
                    refine lv_iconst (v := 0) hx hb d_L_law_531 (by decide) ?_
                    exact h.elim
                · have h := h.2 c_115
                  by_cases c_131 : ((((xs (Int32.toNatClampNeg v3))) &&& 31)) = 5
                  · have h := h.1 c_131
                    refine lv_tableIn (off := 500) (tgt := 533) hx hb d_L_law_33 (by rw [c_131]; decide) (by rw [c_131]; decide) (by rw [c_131]; decide) (by decide) ?_
                    refine mr_aload_n hx hb d_L_law_533 rfl (lv_at hl 1 rfl) ?_
                    refine mr_aload_n hx hb d_L_law_534 rfl (lv_at hl 0 rfl) ?_
                    refine lv_iload_n hx hb d_L_law_535 rfl (lv_at hl 3 rfl) ?_
                    refine lv_iconst (v := 1) hx hb d_L_law_536 (by decide) ?_
                    refine lv_iadd hx hb d_L_law_537 ?_
                    obtain ⟨b_132, h⟩ := h
                    refine va_sld hx hb hX hbl hbA hS b_132 d_L_law_538 ?_
                    obtain ⟨a_133, e_134, t_135, h⟩ := h
                    refine ms_calli (va_runV (As := [.int (xs (Int32.toNatClampNeg ((v3 + 1))))]) (rest := []) ⟨hx, hb, hml, hown, hts⟩ (mc_X_answer l D A σ a_133 ((xs (Int32.toNatClampNeg ((v3 + 1))))) _) ⟨(callB_of 1 hts gw_X_answer rfl rfl rfl (hts _ wd_1) (hts _ wd_300) (by decide +kernel) ⟨by decide, by decide⟩), (hts _ wd_301), (hts _ wd_302)⟩ ⟨mw_blind, mg_recv hK.1 hH (ci := 0) rfl (cell_0 t_135), fun U hU hW => ⟨rfl, mw_pass hH hK hA hS hU hW, mn_warm hW hn, h⟩⟩ rfl rfl hl.1 (by rw [e_134]; rfl) (lv_room (Nat.le_of_ble_eq_true rfl)) d_L_law_539 ⟨by show (51 + (513 - (n + 1)) * 1) + 0 ≤ 600000; omega, by show (7072 + (513 - (n + 1)) * 11) + 0 ≤ 7302250; omega⟩) hS (fun r_136 σ_137 H locs h hH hK hS => ?_)
                    refine W.cs (cells' := (51 + (513 - (n + 1)) * 1)) (slots' := (7072 + (513 - (n + 1)) * 11)) (by omega) (by omega) ?_
                    refine mr_aload_n hx hb d_L_law_542 rfl (lv_at hl 2 rfl) ?_
                    refine mr_aload_n hx hb d_L_law_543 rfl (lv_at hl 0 rfl) ?_
                    refine lv_iload_n hx hb d_L_law_544 rfl (lv_at hl 3 rfl) ?_
                    refine lv_iconst (v := 1) hx hb d_L_law_545 (by decide) ?_
                    refine lv_iadd hx hb d_L_law_546 ?_
                    refine va_sld hx hb hX hbl hbA hS b_132 d_L_law_547 ?_
                    obtain ⟨a_139, e_140, t_141, h⟩ := h
                    refine ms_calli (va_runV (As := [.int (xs (Int32.toNatClampNeg ((v3 + 1))))]) (rest := [.int r_136]) ⟨hx, hb, hml, hown, hts⟩ (mc_M_answer l D A σ_137 a_139 ((xs (Int32.toNatClampNeg ((v3 + 1))))) _) ⟨(callB_of 1 hts gw_M_answer rfl rfl rfl (hts _ wd_4) (hts _ wd_567) (by decide +kernel) ⟨by decide, by decide⟩), (hts _ wd_568), (hts _ wd_569)⟩ ⟨mw_blind, mg_recv hK.1 hH (ci := 1) rfl (cell_1 t_141), fun U hU hW => ⟨rfl, mw_pass hH hK hA hS hU hW, mn_warm hW hn, h⟩⟩ rfl rfl hl.1 (by rw [e_140]; rfl) (lv_room (Nat.le_of_ble_eq_true rfl)) d_L_law_548 ⟨by show (51 + (513 - (n + 1)) * 1) + 0 ≤ 600000; omega, by show (7072 + (513 - (n + 1)) * 11) + 0 ≤ 7302250; omega⟩) hS (fun r_142 σ_143 H locs h hH hK hS => ?_)
                    refine W.cs (cells' := (51 + (513 - (n + 1)) * 1)) (slots' := (7072 + (513 - (n + 1)) * 11)) (by omega) (by omega) ?_
                    refine lv_icmp_eq (tgt := 1202) hx hb d_L_law_551 (by decide) (fun c_144 => ?_) (fun c_144 => ?_)
                    · have h := h.1 c_144
                      obtain ⟨x_145, q_146⟩ : ∃ y : Int32, y = v3 + 8 := ⟨_, rfl⟩
                      have h := h x_145 q_146
                      refine lv_iinc (v := x_145) (lv' := [(3, .int x_145), (0, va_rf (some b)), (1, va_rf v1), (2, va_rf v2)]) hx hb d_L_law_1202 hl (k := 3) rfl (by rw [q_146]; rfl) (by decide) (by simp [List.filter, cat_rf, cat_i, cat_l, cat_r]) (fun ls hl => ?_)
                      refine lv_goto (tgt := 18) hx hb d_L_law_1205 (by decide) ?_
                      refine W.widen (k := 51 + (513 - n) * 1) (n := 7072 + (513 - n) * 11) (by omega) (by omega) ?_
                      exact ih (by omega) _ _ _ _ _ _ _ hH hK hS (lv_sub hl [1, 2, 3, 0] rfl) h
                    · have h := h.2 c_144
                      refine W.widen (k := 564) (n := 12715) (by omega) (by omega) ?_
                      refine lv_iconst (v := 0) hx hb d_L_law_554 (by decide) ?_
                      exact h.elim
                  · have h := h.2 c_131
                    by_cases c_147 : ((((xs (Int32.toNatClampNeg v3))) &&& 31)) = 6
                    · have h := h.1 c_147
                      refine lv_tableIn (off := 523) (tgt := 556) hx hb d_L_law_33 (by rw [c_147]; decide) (by rw [c_147]; decide) (by rw [c_147]; decide) (by decide) ?_
                      refine mr_aload_n hx hb d_L_law_556 rfl (lv_at hl 1 rfl) ?_
                      refine mr_aload_n hx hb d_L_law_557 rfl (lv_at hl 0 rfl) ?_
                      refine lv_iload_n hx hb d_L_law_558 rfl (lv_at hl 3 rfl) ?_
                      refine lv_iconst (v := 1) hx hb d_L_law_559 (by decide) ?_
                      refine lv_iadd hx hb d_L_law_560 ?_
                      obtain ⟨b_148, h⟩ := h
                      refine va_sld hx hb hX hbl hbA hS b_148 d_L_law_561 ?_
                      refine lv_i2l hx hb d_L_law_562 rfl ?_
                      refine lv_bipush (v := 32) hx hb d_L_law_563 (by decide) ?_
                      refine lv_lshl hx hb d_L_law_565 rfl ?_
                      refine mr_aload_n hx hb d_L_law_566 rfl (lv_at hl 0 rfl) ?_
                      refine lv_iload_n hx hb d_L_law_567 rfl (lv_at hl 3 rfl) ?_
                      refine lv_iconst (v := 2) hx hb d_L_law_568 (by decide) ?_
                      refine lv_iadd hx hb d_L_law_569 ?_
                      obtain ⟨b_149, h⟩ := h
                      refine va_sld hx hb hX hbl hbA hS b_149 d_L_law_570 ?_
                      refine lv_i2l hx hb d_L_law_571 rfl ?_
                      refine lv_ldc2 (v := 4294967295) hx hb hown (hts _ wd_631) d_L_law_572 ?_
                      refine lv_land hx hb d_L_law_575 ?_
                      refine lv_lor hx hb d_L_law_576 ?_
                      refine mr_aload_n hx hb d_L_law_577 rfl (lv_at hl 0 rfl) ?_
                      refine lv_iload_n hx hb d_L_law_578 rfl (lv_at hl 3 rfl) ?_
                      refine lv_iconst (v := 3) hx hb d_L_law_579 (by decide) ?_
                      refine lv_iadd hx hb d_L_law_580 ?_
                      obtain ⟨b_150, h⟩ := h
                      refine va_sld hx hb hX hbl hbA hS b_150 d_L_law_581 ?_
                      refine lv_i2l hx hb d_L_law_582 rfl ?_
                      refine lv_bipush (v := 32) hx hb d_L_law_583 (by decide) ?_
                      refine lv_lshl hx hb d_L_law_585 rfl ?_
                      refine mr_aload_n hx hb d_L_law_586 rfl (lv_at hl 0 rfl) ?_
                      refine lv_iload_n hx hb d_L_law_587 rfl (lv_at hl 3 rfl) ?_
                      refine lv_iconst (v := 4) hx hb d_L_law_588 (by decide) ?_
                      refine lv_iadd hx hb d_L_law_589 ?_
                      obtain ⟨b_151, h⟩ := h
                      refine va_sld hx hb hX hbl hbA hS b_151 d_L_law_590 ?_
                      refine lv_i2l hx hb d_L_law_591 rfl ?_
                      refine lv_ldc2 (v := 4294967295) hx hb hown (hts _ wd_631) d_L_law_592 ?_
                      refine lv_land hx hb d_L_law_595 ?_
                      refine lv_lor hx hb d_L_law_596 ?_
                      obtain ⟨a_152, e_153, t_154, h⟩ := h
                      refine ms_calli (va_runV (As := [.long (((((Int32.toInt64 ((xs (Int32.toNatClampNeg ((v3 + 1))))))) <<< ((Int32.toInt64 32) &&& 63))) ||| ((((Int32.toInt64 ((xs (Int32.toNatClampNeg ((v3 + 2))))))) &&& 4294967295))), .long (((((Int32.toInt64 ((xs (Int32.toNatClampNeg ((v3 + 3))))))) <<< ((Int32.toInt64 32) &&& 63))) ||| ((((Int32.toInt64 ((xs (Int32.toNatClampNeg ((v3 + 4))))))) &&& 4294967295)))]) (rest := []) ⟨hx, hb, hml, hown, hts⟩ (mc_X_bar l D A σ a_152 ((((((Int32.toInt64 ((xs (Int32.toNatClampNeg ((v3 + 1))))))) <<< ((Int32.toInt64 32) &&& 63))) ||| ((((Int32.toInt64 ((xs (Int32.toNatClampNeg ((v3 + 2))))))) &&& 4294967295)))) ((((((Int32.toInt64 ((xs (Int32.toNatClampNeg ((v3 + 3))))))) <<< ((Int32.toInt64 32) &&& 63))) ||| ((((Int32.toInt64 ((xs (Int32.toNatClampNeg ((v3 + 4))))))) &&& 4294967295)))) _) ⟨(callB_of 2 hts gw_X_bar rfl rfl rfl (hts _ wd_1) (hts _ wd_304) (by decide +kernel) ⟨by decide, by decide⟩), (hts _ wd_305), (hts _ wd_306)⟩ ⟨mw_blind, mg_recv hK.1 hH (ci := 0) rfl (cell_0 t_154), fun U hU hW => ⟨rfl, mw_pass hH hK hA hS hU hW, mn_warm hW hn, h⟩⟩ rfl rfl hl.1 (by rw [e_153]; rfl) (lv_room (Nat.le_of_ble_eq_true rfl)) d_L_law_597 ⟨by show (51 + (513 - (n + 1)) * 1) + 0 ≤ 600000; omega, by show (7072 + (513 - (n + 1)) * 11) + 0 ≤ 7302250; omega⟩) hS (fun r_155 σ_156 H locs h hH hK hS => ?_)
                      refine W.cs (cells' := (51 + (513 - (n + 1)) * 1)) (slots' := (7072 + (513 - (n + 1)) * 11)) (by omega) (by omega) ?_
                      refine mr_aload_n hx hb d_L_law_600 rfl (lv_at hl 2 rfl) ?_
                      refine mr_aload_n hx hb d_L_law_601 rfl (lv_at hl 0 rfl) ?_
                      refine lv_iload_n hx hb d_L_law_602 rfl (lv_at hl 3 rfl) ?_
                      refine lv_iconst (v := 1) hx hb d_L_law_603 (by decide) ?_
                      refine lv_iadd hx hb d_L_law_604 ?_
                      refine va_sld hx hb hX hbl hbA hS b_148 d_L_law_605 ?_
                      refine lv_i2l hx hb d_L_law_606 rfl ?_
                      refine lv_bipush (v := 32) hx hb d_L_law_607 (by decide) ?_
                      refine lv_lshl hx hb d_L_law_609 rfl ?_
                      refine mr_aload_n hx hb d_L_law_610 rfl (lv_at hl 0 rfl) ?_
                      refine lv_iload_n hx hb d_L_law_611 rfl (lv_at hl 3 rfl) ?_
                      refine lv_iconst (v := 2) hx hb d_L_law_612 (by decide) ?_
                      refine lv_iadd hx hb d_L_law_613 ?_
                      refine va_sld hx hb hX hbl hbA hS b_149 d_L_law_614 ?_
                      refine lv_i2l hx hb d_L_law_615 rfl ?_
                      refine lv_ldc2 (v := 4294967295) hx hb hown (hts _ wd_631) d_L_law_616 ?_
                      refine lv_land hx hb d_L_law_619 ?_
                      refine lv_lor hx hb d_L_law_620 ?_
                      refine mr_aload_n hx hb d_L_law_621 rfl (lv_at hl 0 rfl) ?_
                      refine lv_iload_n hx hb d_L_law_622 rfl (lv_at hl 3 rfl) ?_
                      refine lv_iconst (v := 3) hx hb d_L_law_623 (by decide) ?_
                      refine lv_iadd hx hb d_L_law_624 ?_
                      refine va_sld hx hb hX hbl hbA hS b_150 d_L_law_625 ?_
                      refine lv_i2l hx hb d_L_law_626 rfl ?_
                      refine lv_bipush (v := 32) hx hb d_L_law_627 (by decide) ?_
                      refine lv_lshl hx hb d_L_law_629 rfl ?_
                      refine mr_aload_n hx hb d_L_law_630 rfl (lv_at hl 0 rfl) ?_
                      refine lv_iload_n hx hb d_L_law_631 rfl (lv_at hl 3 rfl) ?_
                      refine lv_iconst (v := 4) hx hb d_L_law_632 (by decide) ?_
                      refine lv_iadd hx hb d_L_law_633 ?_
                      refine va_sld hx hb hX hbl hbA hS b_151 d_L_law_634 ?_
                      refine lv_i2l hx hb d_L_law_635 rfl ?_
                      refine lv_ldc2 (v := 4294967295) hx hb hown (hts _ wd_631) d_L_law_636 ?_
                      refine lv_land hx hb d_L_law_639 ?_
                      refine lv_lor hx hb d_L_law_640 ?_
                      obtain ⟨a_161, e_162, t_163, h⟩ := h
                      refine ms_calli (va_runV (As := [.long (((((Int32.toInt64 ((xs (Int32.toNatClampNeg ((v3 + 1))))))) <<< ((Int32.toInt64 32) &&& 63))) ||| ((((Int32.toInt64 ((xs (Int32.toNatClampNeg ((v3 + 2))))))) &&& 4294967295))), .long (((((Int32.toInt64 ((xs (Int32.toNatClampNeg ((v3 + 3))))))) <<< ((Int32.toInt64 32) &&& 63))) ||| ((((Int32.toInt64 ((xs (Int32.toNatClampNeg ((v3 + 4))))))) &&& 4294967295)))]) (rest := [.int r_155]) ⟨hx, hb, hml, hown, hts⟩ (mc_M_bar l D A σ_156 a_161 ((((((Int32.toInt64 ((xs (Int32.toNatClampNeg ((v3 + 1))))))) <<< ((Int32.toInt64 32) &&& 63))) ||| ((((Int32.toInt64 ((xs (Int32.toNatClampNeg ((v3 + 2))))))) &&& 4294967295)))) ((((((Int32.toInt64 ((xs (Int32.toNatClampNeg ((v3 + 3))))))) <<< ((Int32.toInt64 32) &&& 63))) ||| ((((Int32.toInt64 ((xs (Int32.toNatClampNeg ((v3 + 4))))))) &&& 4294967295)))) _) ⟨(callB_of 2 hts gw_M_bar rfl rfl rfl (hts _ wd_4) (hts _ wd_571) (by decide +kernel) ⟨by decide, by decide⟩), (hts _ wd_572), (hts _ wd_573)⟩ ⟨mw_blind, mg_recv hK.1 hH (ci := 1) rfl (cell_1 t_163), fun U hU hW => ⟨rfl, mw_pass hH hK hA hS hU hW, mn_warm hW hn, h⟩⟩ rfl rfl hl.1 (by rw [e_162]; rfl) (lv_room (Nat.le_of_ble_eq_true rfl)) d_L_law_641 ⟨by show (51 + (513 - (n + 1)) * 1) + 0 ≤ 600000; omega, by show (7072 + (513 - (n + 1)) * 11) + 0 ≤ 7302250; omega⟩) hS (fun r_164 σ_165 H locs h hH hK hS => ?_)
                      refine W.cs (cells' := (51 + (513 - (n + 1)) * 1)) (slots' := (7072 + (513 - (n + 1)) * 11)) (by omega) (by omega) ?_
                      refine lv_icmp_eq (tgt := 1202) hx hb d_L_law_644 (by decide) (fun c_166 => ?_) (fun c_166 => ?_)
                      · have h := h.1 c_166
                        obtain ⟨x_167, q_168⟩ : ∃ y : Int32, y = v3 + 8 := ⟨_, rfl⟩
                        have h := h x_167 q_168
                        refine lv_iinc (v := x_167) (lv' := [(3, .int x_167), (0, va_rf (some b)), (1, va_rf v1), (2, va_rf v2)]) hx hb d_L_law_1202 hl (k := 3) rfl (by rw [q_168]; rfl) (by decide) (by simp [List.filter, cat_rf, cat_i, cat_l, cat_r]) (fun ls hl => ?_)
                        refine lv_goto (tgt := 18) hx hb d_L_law_1205 (by decide) ?_
                        refine W.widen (k := 51 + (513 - n) * 1) (n := 7072 + (513 - n) * 11) (by omega) (by omega) ?_
                        exact ih (by omega) _ _ _ _ _ _ _ hH hK hS (lv_sub hl [1, 2, 3, 0] rfl) h
                      · have h := h.2 c_166
                        refine W.widen (k := 564) (n := 12715) (by omega) (by omega) ?_
                        refine lv_iconst (v := 0) hx hb d_L_law_647 (by decide) ?_
                        exact h.elim
                    · have h := h.2 c_147
                      by_cases c_169 : ((((xs (Int32.toNatClampNeg v3))) &&& 31)) = 7
                      · have h := h.1 c_169
                        refine lv_tableIn (off := 616) (tgt := 649) hx hb d_L_law_33 (by rw [c_169]; decide) (by rw [c_169]; decide) (by rw [c_169]; decide) (by decide) ?_
                        refine mr_aload_n hx hb d_L_law_649 rfl (lv_at hl 1 rfl) ?_
                        refine mr_aload_n hx hb d_L_law_650 rfl (lv_at hl 0 rfl) ?_
                        refine lv_iload_n hx hb d_L_law_651 rfl (lv_at hl 3 rfl) ?_
                        refine lv_iconst (v := 1) hx hb d_L_law_652 (by decide) ?_
                        refine lv_iadd hx hb d_L_law_653 ?_
                        obtain ⟨b_170, h⟩ := h
                        refine va_sld hx hb hX hbl hbA hS b_170 d_L_law_654 ?_
                        refine lv_i2l hx hb d_L_law_655 rfl ?_
                        refine lv_bipush (v := 32) hx hb d_L_law_656 (by decide) ?_
                        refine lv_lshl hx hb d_L_law_658 rfl ?_
                        refine mr_aload_n hx hb d_L_law_659 rfl (lv_at hl 0 rfl) ?_
                        refine lv_iload_n hx hb d_L_law_660 rfl (lv_at hl 3 rfl) ?_
                        refine lv_iconst (v := 2) hx hb d_L_law_661 (by decide) ?_
                        refine lv_iadd hx hb d_L_law_662 ?_
                        obtain ⟨b_171, h⟩ := h
                        refine va_sld hx hb hX hbl hbA hS b_171 d_L_law_663 ?_
                        refine lv_i2l hx hb d_L_law_664 rfl ?_
                        refine lv_ldc2 (v := 4294967295) hx hb hown (hts _ wd_631) d_L_law_665 ?_
                        refine lv_land hx hb d_L_law_668 ?_
                        refine lv_lor hx hb d_L_law_669 ?_
                        obtain ⟨a_172, e_173, t_174, h⟩ := h
                        refine ms_calll (va_runV (As := [.long (((((Int32.toInt64 ((xs (Int32.toNatClampNeg ((v3 + 1))))))) <<< ((Int32.toInt64 32) &&& 63))) ||| ((((Int32.toInt64 ((xs (Int32.toNatClampNeg ((v3 + 2))))))) &&& 4294967295)))]) (rest := []) ⟨hx, hb, hml, hown, hts⟩ (mc_X_since l D A σ a_172 ((((((Int32.toInt64 ((xs (Int32.toNatClampNeg ((v3 + 1))))))) <<< ((Int32.toInt64 32) &&& 63))) ||| ((((Int32.toInt64 ((xs (Int32.toNatClampNeg ((v3 + 2))))))) &&& 4294967295)))) _) ⟨(callB_of 1 hts gw_X_since rfl rfl rfl (hts _ wd_1) (hts _ wd_308) (by decide +kernel) ⟨by decide, by decide⟩), (hts _ wd_309), (hts _ wd_310)⟩ ⟨mw_blind, mg_recv hK.1 hH (ci := 0) rfl (cell_0 t_174), fun U hU hW => ⟨rfl, mw_pass hH hK hA hS hU hW, mn_warm hW hn, h⟩⟩ rfl rfl hl.1 (by rw [e_173]; rfl) (lv_room (Nat.le_of_ble_eq_true rfl)) d_L_law_670 ⟨by show (51 + (513 - (n + 1)) * 1) + 0 ≤ 600000; omega, by show (7072 + (513 - (n + 1)) * 11) + 0 ≤ 7302250; omega⟩) hS (fun r_175 σ_176 H locs h hH hK hS => ?_)
                        refine W.cs (cells' := (51 + (513 - (n + 1)) * 1)) (slots' := (7072 + (513 - (n + 1)) * 11)) (by omega) (by omega) ?_
                        refine mr_aload_n hx hb d_L_law_673 rfl (lv_at hl 2 rfl) ?_
                        refine mr_aload_n hx hb d_L_law_674 rfl (lv_at hl 0 rfl) ?_
                        refine lv_iload_n hx hb d_L_law_675 rfl (lv_at hl 3 rfl) ?_
                        refine lv_iconst (v := 1) hx hb d_L_law_676 (by decide) ?_
                        refine lv_iadd hx hb d_L_law_677 ?_
                        refine va_sld hx hb hX hbl hbA hS b_170 d_L_law_678 ?_
                        refine lv_i2l hx hb d_L_law_679 rfl ?_
                        refine lv_bipush (v := 32) hx hb d_L_law_680 (by decide) ?_
                        refine lv_lshl hx hb d_L_law_682 rfl ?_
                        refine mr_aload_n hx hb d_L_law_683 rfl (lv_at hl 0 rfl) ?_
                        refine lv_iload_n hx hb d_L_law_684 rfl (lv_at hl 3 rfl) ?_
                        refine lv_iconst (v := 2) hx hb d_L_law_685 (by decide) ?_
                        refine lv_iadd hx hb d_L_law_686 ?_
                        refine va_sld hx hb hX hbl hbA hS b_171 d_L_law_687 ?_
                        refine lv_i2l hx hb d_L_law_688 rfl ?_
                        refine lv_ldc2 (v := 4294967295) hx hb hown (hts _ wd_631) d_L_law_689 ?_
                        refine lv_land hx hb d_L_law_692 ?_
                        refine lv_lor hx hb d_L_law_693 ?_
                        obtain ⟨a_179, e_180, t_181, h⟩ := h
                        refine ms_calll (va_runV (As := [.long (((((Int32.toInt64 ((xs (Int32.toNatClampNeg ((v3 + 1))))))) <<< ((Int32.toInt64 32) &&& 63))) ||| ((((Int32.toInt64 ((xs (Int32.toNatClampNeg ((v3 + 2))))))) &&& 4294967295)))]) (rest := [.long r_175]) ⟨hx, hb, hml, hown, hts⟩ (mc_M_since l D A σ_176 a_179 ((((((Int32.toInt64 ((xs (Int32.toNatClampNeg ((v3 + 1))))))) <<< ((Int32.toInt64 32) &&& 63))) ||| ((((Int32.toInt64 ((xs (Int32.toNatClampNeg ((v3 + 2))))))) &&& 4294967295)))) _) ⟨(callB_of 1 hts gw_M_since rfl rfl rfl (hts _ wd_4) (hts _ wd_575) (by decide +kernel) ⟨by decide, by decide⟩), (hts _ wd_576), (hts _ wd_577)⟩ ⟨mw_blind, mg_recv hK.1 hH (ci := 1) rfl (cell_1 t_181), fun U hU hW => ⟨rfl, mw_pass hH hK hA hS hU hW, mn_warm hW hn, h⟩⟩ rfl rfl hl.1 (by rw [e_180]; rfl) (lv_room (Nat.le_of_ble_eq_true rfl)) d_L_law_694 ⟨by show (51 + (513 - (n + 1)) * 1) + 0 ≤ 600000; omega, by show (7072 + (513 - (n + 1)) * 11) + 0 ≤ 7302250; omega⟩) hS (fun r_182 σ_183 H locs h hH hK hS => ?_)
                        refine W.cs (cells' := (51 + (513 - (n + 1)) * 1)) (slots' := (7072 + (513 - (n + 1)) * 11)) (by omega) (by omega) ?_
                        refine W.lcmp hx hb d_L_law_697 ?_
                        refine lv_if_eq (tgt := 1202) hx hb d_L_law_698 (by decide) (fun c_184 => ?_) (fun c_184 => ?_)
                        · have h := h.1 c_184
                          obtain ⟨x_185, q_186⟩ : ∃ y : Int32, y = v3 + 8 := ⟨_, rfl⟩
                          have h := h x_185 q_186
                          refine lv_iinc (v := x_185) (lv' := [(3, .int x_185), (0, va_rf (some b)), (1, va_rf v1), (2, va_rf v2)]) hx hb d_L_law_1202 hl (k := 3) rfl (by rw [q_186]; rfl) (by decide) (by simp [List.filter, cat_rf, cat_i, cat_l, cat_r]) (fun ls hl => ?_)
                          refine lv_goto (tgt := 18) hx hb d_L_law_1205 (by decide) ?_
                          refine W.widen (k := 51 + (513 - n) * 1) (n := 7072 + (513 - n) * 11) (by omega) (by omega) ?_
                          exact ih (by omega) _ _ _ _ _ _ _ hH hK hS (lv_sub hl [1, 2, 3, 0] rfl) h
                        · have h := h.2 c_184
                          refine W.widen (k := 564) (n := 12715) (by omega) (by omega) ?_
                          refine lv_iconst (v := 0) hx hb d_L_law_701 (by decide) ?_
                          exact h.elim
                      · have h := h.2 c_169
                        by_cases c_187 : ((((xs (Int32.toNatClampNeg v3))) &&& 31)) = 8
                        · have h := h.1 c_187
                          refine lv_tableIn (off := 670) (tgt := 703) hx hb d_L_law_33 (by rw [c_187]; decide) (by rw [c_187]; decide) (by rw [c_187]; decide) (by decide) ?_
                          refine mr_aload_n hx hb d_L_law_703 rfl (lv_at hl 1 rfl) ?_
                          refine mr_aload_n hx hb d_L_law_704 rfl (lv_at hl 0 rfl) ?_
                          refine lv_iload_n hx hb d_L_law_705 rfl (lv_at hl 3 rfl) ?_
                          refine lv_iconst (v := 1) hx hb d_L_law_706 (by decide) ?_
                          refine lv_iadd hx hb d_L_law_707 ?_
                          obtain ⟨b_188, h⟩ := h
                          refine va_sld hx hb hX hbl hbA hS b_188 d_L_law_708 ?_
                          refine lv_i2l hx hb d_L_law_709 rfl ?_
                          refine lv_bipush (v := 32) hx hb d_L_law_710 (by decide) ?_
                          refine lv_lshl hx hb d_L_law_712 rfl ?_
                          refine mr_aload_n hx hb d_L_law_713 rfl (lv_at hl 0 rfl) ?_
                          refine lv_iload_n hx hb d_L_law_714 rfl (lv_at hl 3 rfl) ?_
                          refine lv_iconst (v := 2) hx hb d_L_law_715 (by decide) ?_
                          refine lv_iadd hx hb d_L_law_716 ?_
                          obtain ⟨b_189, h⟩ := h
                          refine va_sld hx hb hX hbl hbA hS b_189 d_L_law_717 ?_
                          refine lv_i2l hx hb d_L_law_718 rfl ?_
                          refine lv_ldc2 (v := 4294967295) hx hb hown (hts _ wd_631) d_L_law_719 ?_
                          refine lv_land hx hb d_L_law_722 ?_
                          refine lv_lor hx hb d_L_law_723 ?_
                          obtain ⟨a_190, e_191, t_192, h⟩ := h
                          refine ms_calli (va_runV (As := [.long (((((Int32.toInt64 ((xs (Int32.toNatClampNeg ((v3 + 1))))))) <<< ((Int32.toInt64 32) &&& 63))) ||| ((((Int32.toInt64 ((xs (Int32.toNatClampNeg ((v3 + 2))))))) &&& 4294967295)))]) (rest := []) ⟨hx, hb, hml, hown, hts⟩ (mc_X_replace l D A σ a_190 ((((((Int32.toInt64 ((xs (Int32.toNatClampNeg ((v3 + 1))))))) <<< ((Int32.toInt64 32) &&& 63))) ||| ((((Int32.toInt64 ((xs (Int32.toNatClampNeg ((v3 + 2))))))) &&& 4294967295)))) _) ⟨(callB_of 1 hts gw_X_replace rfl rfl rfl (hts _ wd_1) (hts _ wd_313) (by decide +kernel) ⟨by decide, by decide⟩), (hts _ wd_314), (hts _ wd_315)⟩ ⟨mw_blind, mg_recv hK.1 hH (ci := 0) rfl (cell_0 t_192), fun U hU hW => ⟨rfl, mw_pass hH hK hA hS hU hW, mn_warm hW hn, h⟩⟩ rfl rfl hl.1 (by rw [e_191]; rfl) (lv_room (Nat.le_of_ble_eq_true rfl)) d_L_law_724 ⟨by show (51 + (513 - (n + 1)) * 1) + 1 ≤ 600000; omega, by show (7072 + (513 - (n + 1)) * 11) + 11 ≤ 7302250; omega⟩) hS (fun r_193 σ_194 H locs h hH hK hS => ?_)
                          refine W.cs (cells' := (52 + (513 - (n + 1)) * 1)) (slots' := (7083 + (513 - (n + 1)) * 11)) (by omega) (by omega) ?_
                          refine mr_aload_n hx hb d_L_law_727 rfl (lv_at hl 2 rfl) ?_
                          refine mr_aload_n hx hb d_L_law_728 rfl (lv_at hl 0 rfl) ?_
                          refine lv_iload_n hx hb d_L_law_729 rfl (lv_at hl 3 rfl) ?_
                          refine lv_iconst (v := 1) hx hb d_L_law_730 (by decide) ?_
                          refine lv_iadd hx hb d_L_law_731 ?_
                          refine va_sld hx hb hX hbl hbA hS b_188 d_L_law_732 ?_
                          refine lv_i2l hx hb d_L_law_733 rfl ?_
                          refine lv_bipush (v := 32) hx hb d_L_law_734 (by decide) ?_
                          refine lv_lshl hx hb d_L_law_736 rfl ?_
                          refine mr_aload_n hx hb d_L_law_737 rfl (lv_at hl 0 rfl) ?_
                          refine lv_iload_n hx hb d_L_law_738 rfl (lv_at hl 3 rfl) ?_
                          refine lv_iconst (v := 2) hx hb d_L_law_739 (by decide) ?_
                          refine lv_iadd hx hb d_L_law_740 ?_
                          refine va_sld hx hb hX hbl hbA hS b_189 d_L_law_741 ?_
                          refine lv_i2l hx hb d_L_law_742 rfl ?_
                          refine lv_ldc2 (v := 4294967295) hx hb hown (hts _ wd_631) d_L_law_743 ?_
                          refine lv_land hx hb d_L_law_746 ?_
                          refine lv_lor hx hb d_L_law_747 ?_
                          obtain ⟨a_197, e_198, t_199, h⟩ := h
                          refine ms_calli (va_runV (As := [.long (((((Int32.toInt64 ((xs (Int32.toNatClampNeg ((v3 + 1))))))) <<< ((Int32.toInt64 32) &&& 63))) ||| ((((Int32.toInt64 ((xs (Int32.toNatClampNeg ((v3 + 2))))))) &&& 4294967295)))]) (rest := [.int r_193]) ⟨hx, hb, hml, hown, hts⟩ (mc_M_replace l D A σ_194 a_197 ((((((Int32.toInt64 ((xs (Int32.toNatClampNeg ((v3 + 1))))))) <<< ((Int32.toInt64 32) &&& 63))) ||| ((((Int32.toInt64 ((xs (Int32.toNatClampNeg ((v3 + 2))))))) &&& 4294967295)))) _) ⟨(callB_of 1 hts gw_M_replace rfl rfl rfl (hts _ wd_4) (hts _ wd_580) (by decide +kernel) ⟨by decide, by decide⟩), (hts _ wd_581), (hts _ wd_582)⟩ ⟨mw_blind, mg_recv hK.1 hH (ci := 1) rfl (cell_1 t_199), fun U hU hW => ⟨rfl, mw_pass hH hK hA hS hU hW, mn_warm hW hn, h⟩⟩ rfl rfl hl.1 (by rw [e_198]; rfl) (lv_room (Nat.le_of_ble_eq_true rfl)) d_L_law_748 ⟨by show (52 + (513 - (n + 1)) * 1) + 0 ≤ 600000; omega, by show (7083 + (513 - (n + 1)) * 11) + 0 ≤ 7302250; omega⟩) hS (fun r_200 σ_201 H locs h hH hK hS => ?_)
                          refine W.cs (cells' := (52 + (513 - (n + 1)) * 1)) (slots' := (7083 + (513 - (n + 1)) * 11)) (by omega) (by omega) ?_
                          refine lv_icmp_eq (tgt := 1202) hx hb d_L_law_751 (by decide) (fun c_202 => ?_) (fun c_202 => ?_)
                          · have h := h.1 c_202
                            obtain ⟨x_203, q_204⟩ : ∃ y : Int32, y = v3 + 8 := ⟨_, rfl⟩
                            have h := h x_203 q_204
                            refine lv_iinc (v := x_203) (lv' := [(3, .int x_203), (0, va_rf (some b)), (1, va_rf v1), (2, va_rf v2)]) hx hb d_L_law_1202 hl (k := 3) rfl (by rw [q_204]; rfl) (by decide) (by simp [List.filter, cat_rf, cat_i, cat_l, cat_r]) (fun ls hl => ?_)
                            refine lv_goto (tgt := 18) hx hb d_L_law_1205 (by decide) ?_
                            refine W.widen (k := 51 + (513 - n) * 1) (n := 7072 + (513 - n) * 11) (by omega) (by omega) ?_
                            exact ih (by omega) _ _ _ _ _ _ _ hH hK hS (lv_sub hl [1, 2, 3, 0] rfl) h
                          · have h := h.2 c_202
                            refine W.widen (k := 565) (n := 12726) (by omega) (by omega) ?_
                            refine lv_iconst (v := 0) hx hb d_L_law_754 (by decide) ?_
                            exact h.elim
                        · have h := h.2 c_187
                          by_cases c_205 : ((((xs (Int32.toNatClampNeg v3))) &&& 31)) = 9
                          · have h := h.1 c_205
                            refine lv_tableIn (off := 723) (tgt := 756) hx hb d_L_law_33 (by rw [c_205]; decide) (by rw [c_205]; decide) (by rw [c_205]; decide) (by decide) ?_
                            refine mr_aload_n hx hb d_L_law_756 rfl (lv_at hl 1 rfl) ?_
                            refine mr_aload_n hx hb d_L_law_757 rfl (lv_at hl 0 rfl) ?_
                            refine lv_iload_n hx hb d_L_law_758 rfl (lv_at hl 3 rfl) ?_
                            refine lv_iconst (v := 1) hx hb d_L_law_759 (by decide) ?_
                            refine lv_iadd hx hb d_L_law_760 ?_
                            obtain ⟨b_206, h⟩ := h
                            refine va_sld hx hb hX hbl hbA hS b_206 d_L_law_761 ?_
                            refine mr_aload_n hx hb d_L_law_762 rfl (lv_at hl 0 rfl) ?_
                            refine lv_iload_n hx hb d_L_law_763 rfl (lv_at hl 3 rfl) ?_
                            refine lv_iconst (v := 2) hx hb d_L_law_764 (by decide) ?_
                            refine lv_iadd hx hb d_L_law_765 ?_
                            obtain ⟨b_207, h⟩ := h
                            refine va_sld hx hb hX hbl hbA hS b_207 d_L_law_766 ?_
                            refine lv_if_eq (tgt := 774) hx hb d_L_law_767 (by decide) (fun c_208 => ?_) (fun c_208 => ?_)
                            · have h := h.1 c_208
                              refine lv_iconst (v := 0) hx hb d_L_law_774 (by decide) ?_
                              obtain ⟨a_209, e_210, t_211, h⟩ := h
                              refine ms_calli (va_runV (As := [.int (xs (Int32.toNatClampNeg ((v3 + 1)))), .int 0]) (rest := []) ⟨hx, hb, hml, hown, hts⟩ (mc_X_cut l D A σ a_209 ((xs (Int32.toNatClampNeg ((v3 + 1))))) 0 _) ⟨(callB_of 2 hts gw_X_cut rfl rfl rfl (hts _ wd_1) (hts _ wd_321) (by decide +kernel) ⟨by decide, by decide⟩), (hts _ wd_322), (hts _ wd_323)⟩ ⟨mw_blind, mg_recv hK.1 hH (ci := 0) rfl (cell_0 t_211), fun U hU hW => ⟨rfl, mw_pass hH hK hA hS hU hW, mn_warm hW hn, h⟩⟩ rfl rfl hl.1 (by rw [e_210]; rfl) (lv_room (Nat.le_of_ble_eq_true rfl)) d_L_law_775 ⟨by show (51 + (513 - (n + 1)) * 1) + 0 ≤ 600000; omega, by show (7072 + (513 - (n + 1)) * 11) + 0 ≤ 7302250; omega⟩) hS (fun r_212 σ_213 H locs h hH hK hS => ?_)
                              refine W.cs (cells' := (51 + (513 - (n + 1)) * 1)) (slots' := (7072 + (513 - (n + 1)) * 11)) (by omega) (by omega) ?_
                              refine mr_aload_n hx hb d_L_law_778 rfl (lv_at hl 2 rfl) ?_
                              refine mr_aload_n hx hb d_L_law_779 rfl (lv_at hl 0 rfl) ?_
                              refine lv_iload_n hx hb d_L_law_780 rfl (lv_at hl 3 rfl) ?_
                              refine lv_iconst (v := 1) hx hb d_L_law_781 (by decide) ?_
                              refine lv_iadd hx hb d_L_law_782 ?_
                              refine va_sld hx hb hX hbl hbA hS b_206 d_L_law_783 ?_
                              refine mr_aload_n hx hb d_L_law_784 rfl (lv_at hl 0 rfl) ?_
                              refine lv_iload_n hx hb d_L_law_785 rfl (lv_at hl 3 rfl) ?_
                              refine lv_iconst (v := 2) hx hb d_L_law_786 (by decide) ?_
                              refine lv_iadd hx hb d_L_law_787 ?_
                              refine va_sld hx hb hX hbl hbA hS b_207 d_L_law_788 ?_
                              refine lv_if_eq (tgt := 796) hx hb d_L_law_789 (by decide) (fun c_216 => ?_) (fun c_216 => ?_)
                              · have h := h.1 c_216
                                refine lv_iconst (v := 0) hx hb d_L_law_796 (by decide) ?_
                                obtain ⟨a_217, e_218, t_219, h⟩ := h
                                refine ms_calli (va_runV (As := [.int (xs (Int32.toNatClampNeg ((v3 + 1)))), .int 0]) (rest := [.int r_212]) ⟨hx, hb, hml, hown, hts⟩ (mc_M_cut l D A σ_213 a_217 ((xs (Int32.toNatClampNeg ((v3 + 1))))) 0 _) ⟨(callB_of 2 hts gw_M_cut rfl rfl rfl (hts _ wd_4) (hts _ wd_588) (by decide +kernel) ⟨by decide, by decide⟩), (hts _ wd_589), (hts _ wd_590)⟩ ⟨mw_blind, mg_recv hK.1 hH (ci := 1) rfl (cell_1 t_219), fun U hU hW => ⟨rfl, mw_pass hH hK hA hS hU hW, mn_warm hW hn, h⟩⟩ rfl rfl hl.1 (by rw [e_218]; rfl) (lv_room (Nat.le_of_ble_eq_true rfl)) d_L_law_797 ⟨by show (51 + (513 - (n + 1)) * 1) + 0 ≤ 600000; omega, by show (7072 + (513 - (n + 1)) * 11) + 0 ≤ 7302250; omega⟩) hS (fun r_220 σ_221 H locs h hH hK hS => ?_)
                                refine W.cs (cells' := (51 + (513 - (n + 1)) * 1)) (slots' := (7072 + (513 - (n + 1)) * 11)) (by omega) (by omega) ?_
                                refine lv_icmp_eq (tgt := 1202) hx hb d_L_law_800 (by decide) (fun c_222 => ?_) (fun c_222 => ?_)
                                · have h := h.1 c_222
                                  obtain ⟨x_223, q_224⟩ : ∃ y : Int32, y = v3 + 8 := ⟨_, rfl⟩
                                  have h := h x_223 q_224
                                  refine lv_iinc (v := x_223) (lv' := [(3, .int x_223), (0, va_rf (some b)), (1, va_rf v1), (2, va_rf v2)]) hx hb d_L_law_1202 hl (k := 3) rfl (by rw [q_224]; rfl) (by decide) (by simp [List.filter, cat_rf, cat_i, cat_l, cat_r]) (fun ls hl => ?_)
                                  refine lv_goto (tgt := 18) hx hb d_L_law_1205 (by decide) ?_
                                  refine W.widen (k := 51 + (513 - n) * 1) (n := 7072 + (513 - n) * 11) (by omega) (by omega) ?_
                                  exact ih (by omega) _ _ _ _ _ _ _ hH hK hS (lv_sub hl [1, 2, 3, 0] rfl) h
                                · have h := h.2 c_222
                                  refine W.widen (k := 564) (n := 12715) (by omega) (by omega) ?_
                                  refine lv_iconst (v := 0) hx hb d_L_law_803 (by decide) ?_
                                  exact h.elim
                              · have h := h.2 c_216
                                refine lv_iconst (v := 1) hx hb d_L_law_792 (by decide) ?_
                                refine lv_goto (tgt := 797) hx hb d_L_law_793 (by decide) ?_
                                obtain ⟨a_225, e_226, t_227, h⟩ := h
                                refine ms_calli (va_runV (As := [.int (xs (Int32.toNatClampNeg ((v3 + 1)))), .int 1]) (rest := [.int r_212]) ⟨hx, hb, hml, hown, hts⟩ (mc_M_cut l D A σ_213 a_225 ((xs (Int32.toNatClampNeg ((v3 + 1))))) 1 _) ⟨(callB_of 2 hts gw_M_cut rfl rfl rfl (hts _ wd_4) (hts _ wd_588) (by decide +kernel) ⟨by decide, by decide⟩), (hts _ wd_589), (hts _ wd_590)⟩ ⟨mw_blind, mg_recv hK.1 hH (ci := 1) rfl (cell_1 t_227), fun U hU hW => ⟨rfl, mw_pass hH hK hA hS hU hW, mn_warm hW hn, h⟩⟩ rfl rfl hl.1 (by rw [e_226]; rfl) (lv_room (Nat.le_of_ble_eq_true rfl)) d_L_law_797 ⟨by show (51 + (513 - (n + 1)) * 1) + 0 ≤ 600000; omega, by show (7072 + (513 - (n + 1)) * 11) + 0 ≤ 7302250; omega⟩) hS (fun r_228 σ_229 H locs h hH hK hS => ?_)
                                refine W.cs (cells' := (51 + (513 - (n + 1)) * 1)) (slots' := (7072 + (513 - (n + 1)) * 11)) (by omega) (by omega) ?_
                                refine lv_icmp_eq (tgt := 1202) hx hb d_L_law_800 (by decide) (fun c_230 => ?_) (fun c_230 => ?_)
                                · have h := h.1 c_230
                                  obtain ⟨x_231, q_232⟩ : ∃ y : Int32, y = v3 + 8 := ⟨_, rfl⟩
                                  have h := h x_231 q_232
                                  refine lv_iinc (v := x_231) (lv' := [(3, .int x_231), (0, va_rf (some b)), (1, va_rf v1), (2, va_rf v2)]) hx hb d_L_law_1202 hl (k := 3) rfl (by rw [q_232]; rfl) (by decide) (by simp [List.filter, cat_rf, cat_i, cat_l, cat_r]) (fun ls hl => ?_)
                                  refine lv_goto (tgt := 18) hx hb d_L_law_1205 (by decide) ?_
                                  refine W.widen (k := 51 + (513 - n) * 1) (n := 7072 + (513 - n) * 11) (by omega) (by omega) ?_
                                  exact ih (by omega) _ _ _ _ _ _ _ hH hK hS (lv_sub hl [1, 2, 3, 0] rfl) h
                                · have h := h.2 c_230
                                  refine W.widen (k := 564) (n := 12715) (by omega) (by omega) ?_
                                  refine lv_iconst (v := 0) hx hb d_L_law_803 (by decide) ?_
                                  exact h.elim
                            · have h := h.2 c_208
                              refine lv_iconst (v := 1) hx hb d_L_law_770 (by decide) ?_
                              refine lv_goto (tgt := 775) hx hb d_L_law_771 (by decide) ?_
                              obtain ⟨a_233, e_234, t_235, h⟩ := h
                              refine ms_calli (va_runV (As := [.int (xs (Int32.toNatClampNeg ((v3 + 1)))), .int 1]) (rest := []) ⟨hx, hb, hml, hown, hts⟩ (mc_X_cut l D A σ a_233 ((xs (Int32.toNatClampNeg ((v3 + 1))))) 1 _) ⟨(callB_of 2 hts gw_X_cut rfl rfl rfl (hts _ wd_1) (hts _ wd_321) (by decide +kernel) ⟨by decide, by decide⟩), (hts _ wd_322), (hts _ wd_323)⟩ ⟨mw_blind, mg_recv hK.1 hH (ci := 0) rfl (cell_0 t_235), fun U hU hW => ⟨rfl, mw_pass hH hK hA hS hU hW, mn_warm hW hn, h⟩⟩ rfl rfl hl.1 (by rw [e_234]; rfl) (lv_room (Nat.le_of_ble_eq_true rfl)) d_L_law_775 ⟨by show (51 + (513 - (n + 1)) * 1) + 0 ≤ 600000; omega, by show (7072 + (513 - (n + 1)) * 11) + 0 ≤ 7302250; omega⟩) hS (fun r_236 σ_237 H locs h hH hK hS => ?_)
                              refine W.cs (cells' := (51 + (513 - (n + 1)) * 1)) (slots' := (7072 + (513 - (n + 1)) * 11)) (by omega) (by omega) ?_
                              refine mr_aload_n hx hb d_L_law_778 rfl (lv_at hl 2 rfl) ?_
                              refine mr_aload_n hx hb d_L_law_779 rfl (lv_at hl 0 rfl) ?_
                              refine lv_iload_n hx hb d_L_law_780 rfl (lv_at hl 3 rfl) ?_
                              refine lv_iconst (v := 1) hx hb d_L_law_781 (by decide) ?_
                              refine lv_iadd hx hb d_L_law_782 ?_
                              refine va_sld hx hb hX hbl hbA hS b_206 d_L_law_783 ?_
                              refine mr_aload_n hx hb d_L_law_784 rfl (lv_at hl 0 rfl) ?_
                              refine lv_iload_n hx hb d_L_law_785 rfl (lv_at hl 3 rfl) ?_
                              refine lv_iconst (v := 2) hx hb d_L_law_786 (by decide) ?_
                              refine lv_iadd hx hb d_L_law_787 ?_
                              refine va_sld hx hb hX hbl hbA hS b_207 d_L_law_788 ?_
                              refine lv_if_eq (tgt := 796) hx hb d_L_law_789 (by decide) (fun c_240 => ?_) (fun c_240 => ?_)
                              · have h := h.1 c_240
                                refine lv_iconst (v := 0) hx hb d_L_law_796 (by decide) ?_
                                obtain ⟨a_241, e_242, t_243, h⟩ := h
                                refine ms_calli (va_runV (As := [.int (xs (Int32.toNatClampNeg ((v3 + 1)))), .int 0]) (rest := [.int r_236]) ⟨hx, hb, hml, hown, hts⟩ (mc_M_cut l D A σ_237 a_241 ((xs (Int32.toNatClampNeg ((v3 + 1))))) 0 _) ⟨(callB_of 2 hts gw_M_cut rfl rfl rfl (hts _ wd_4) (hts _ wd_588) (by decide +kernel) ⟨by decide, by decide⟩), (hts _ wd_589), (hts _ wd_590)⟩ ⟨mw_blind, mg_recv hK.1 hH (ci := 1) rfl (cell_1 t_243), fun U hU hW => ⟨rfl, mw_pass hH hK hA hS hU hW, mn_warm hW hn, h⟩⟩ rfl rfl hl.1 (by rw [e_242]; rfl) (lv_room (Nat.le_of_ble_eq_true rfl)) d_L_law_797 ⟨by show (51 + (513 - (n + 1)) * 1) + 0 ≤ 600000; omega, by show (7072 + (513 - (n + 1)) * 11) + 0 ≤ 7302250; omega⟩) hS (fun r_244 σ_245 H locs h hH hK hS => ?_)
                                refine W.cs (cells' := (51 + (513 - (n + 1)) * 1)) (slots' := (7072 + (513 - (n + 1)) * 11)) (by omega) (by omega) ?_
                                refine lv_icmp_eq (tgt := 1202) hx hb d_L_law_800 (by decide) (fun c_246 => ?_) (fun c_246 => ?_)
                                · have h := h.1 c_246
                                  obtain ⟨x_247, q_248⟩ : ∃ y : Int32, y = v3 + 8 := ⟨_, rfl⟩
                                  have h := h x_247 q_248
                                  refine lv_iinc (v := x_247) (lv' := [(3, .int x_247), (0, va_rf (some b)), (1, va_rf v1), (2, va_rf v2)]) hx hb d_L_law_1202 hl (k := 3) rfl (by rw [q_248]; rfl) (by decide) (by simp [List.filter, cat_rf, cat_i, cat_l, cat_r]) (fun ls hl => ?_)
                                  refine lv_goto (tgt := 18) hx hb d_L_law_1205 (by decide) ?_
                                  refine W.widen (k := 51 + (513 - n) * 1) (n := 7072 + (513 - n) * 11) (by omega) (by omega) ?_
                                  exact ih (by omega) _ _ _ _ _ _ _ hH hK hS (lv_sub hl [1, 2, 3, 0] rfl) h
                                · have h := h.2 c_246
                                  refine W.widen (k := 564) (n := 12715) (by omega) (by omega) ?_
                                  refine lv_iconst (v := 0) hx hb d_L_law_803 (by decide) ?_
                                  exact h.elim
                              · have h := h.2 c_240
                                refine lv_iconst (v := 1) hx hb d_L_law_792 (by decide) ?_
                                refine lv_goto (tgt := 797) hx hb d_L_law_793 (by decide) ?_
                                obtain ⟨a_249, e_250, t_251, h⟩ := h
                                refine ms_calli (va_runV (As := [.int (xs (Int32.toNatClampNeg ((v3 + 1)))), .int 1]) (rest := [.int r_236]) ⟨hx, hb, hml, hown, hts⟩ (mc_M_cut l D A σ_237 a_249 ((xs (Int32.toNatClampNeg ((v3 + 1))))) 1 _) ⟨(callB_of 2 hts gw_M_cut rfl rfl rfl (hts _ wd_4) (hts _ wd_588) (by decide +kernel) ⟨by decide, by decide⟩), (hts _ wd_589), (hts _ wd_590)⟩ ⟨mw_blind, mg_recv hK.1 hH (ci := 1) rfl (cell_1 t_251), fun U hU hW => ⟨rfl, mw_pass hH hK hA hS hU hW, mn_warm hW hn, h⟩⟩ rfl rfl hl.1 (by rw [e_250]; rfl) (lv_room (Nat.le_of_ble_eq_true rfl)) d_L_law_797 ⟨by show (51 + (513 - (n + 1)) * 1) + 0 ≤ 600000; omega, by show (7072 + (513 - (n + 1)) * 11) + 0 ≤ 7302250; omega⟩) hS (fun r_252 σ_253 H locs h hH hK hS => ?_)
                                refine W.cs (cells' := (51 + (513 - (n + 1)) * 1)) (slots' := (7072 + (513 - (n + 1)) * 11)) (by omega) (by omega) ?_
                                refine lv_icmp_eq (tgt := 1202) hx hb d_L_law_800 (by decide) (fun c_254 => ?_) (fun c_254 => ?_)
                                · have h := h.1 c_254
                                  obtain ⟨x_255, q_256⟩ : ∃ y : Int32, y = v3 + 8 := ⟨_, rfl⟩
                                  have h := h x_255 q_256
                                  refine lv_iinc (v := x_255) (lv' := [(3, .int x_255), (0, va_rf (some b)), (1, va_rf v1), (2, va_rf v2)]) hx hb d_L_law_1202 hl (k := 3) rfl (by rw [q_256]; rfl) (by decide) (by simp [List.filter, cat_rf, cat_i, cat_l, cat_r]) (fun ls hl => ?_)
                                  refine lv_goto (tgt := 18) hx hb d_L_law_1205 (by decide) ?_
                                  refine W.widen (k := 51 + (513 - n) * 1) (n := 7072 + (513 - n) * 11) (by omega) (by omega) ?_
                                  exact ih (by omega) _ _ _ _ _ _ _ hH hK hS (lv_sub hl [1, 2, 3, 0] rfl) h
                                · have h := h.2 c_254
                                  refine W.widen (k := 564) (n := 12715) (by omega) (by omega) ?_
                                  refine lv_iconst (v := 0) hx hb d_L_law_803 (by decide) ?_
                                  exact h.elim
                          · have h := h.2 c_205
                            by_cases c_257 : ((((xs (Int32.toNatClampNeg v3))) &&& 31)) = 10
                            · have h := h.1 c_257
                              refine lv_tableIn (off := 772) (tgt := 805) hx hb d_L_law_33 (by rw [c_257]; decide) (by rw [c_257]; decide) (by rw [c_257]; decide) (by decide) ?_
                              refine mr_aload_n hx hb d_L_law_805 rfl (lv_at hl 1 rfl) ?_
                              refine mr_aload_n hx hb d_L_law_806 rfl (lv_at hl 0 rfl) ?_
                              refine lv_iload_n hx hb d_L_law_807 rfl (lv_at hl 3 rfl) ?_
                              refine lv_iconst (v := 1) hx hb d_L_law_808 (by decide) ?_
                              refine lv_iadd hx hb d_L_law_809 ?_
                              obtain ⟨b_258, h⟩ := h
                              refine va_sld hx hb hX hbl hbA hS b_258 d_L_law_810 ?_
                              refine mr_aload_n hx hb d_L_law_811 rfl (lv_at hl 0 rfl) ?_
                              refine lv_iload_n hx hb d_L_law_812 rfl (lv_at hl 3 rfl) ?_
                              refine lv_iconst (v := 2) hx hb d_L_law_813 (by decide) ?_
                              refine lv_iadd hx hb d_L_law_814 ?_
                              obtain ⟨b_259, h⟩ := h
                              refine va_sld hx hb hX hbl hbA hS b_259 d_L_law_815 ?_
                              refine lv_i2l hx hb d_L_law_816 rfl ?_
                              refine lv_bipush (v := 32) hx hb d_L_law_817 (by decide) ?_
                              refine lv_lshl hx hb d_L_law_819 rfl ?_
                              refine mr_aload_n hx hb d_L_law_820 rfl (lv_at hl 0 rfl) ?_
                              refine lv_iload_n hx hb d_L_law_821 rfl (lv_at hl 3 rfl) ?_
                              refine lv_iconst (v := 3) hx hb d_L_law_822 (by decide) ?_
                              refine lv_iadd hx hb d_L_law_823 ?_
                              obtain ⟨b_260, h⟩ := h
                              refine va_sld hx hb hX hbl hbA hS b_260 d_L_law_824 ?_
                              refine lv_i2l hx hb d_L_law_825 rfl ?_
                              refine lv_ldc2 (v := 4294967295) hx hb hown (hts _ wd_631) d_L_law_826 ?_
                              refine lv_land hx hb d_L_law_829 ?_
                              refine lv_lor hx hb d_L_law_830 ?_
                              obtain ⟨a_261, e_262, t_263, h⟩ := h
                              refine ms_calli (va_runV (As := [.int (xs (Int32.toNatClampNeg ((v3 + 1)))), .long (((((Int32.toInt64 ((xs (Int32.toNatClampNeg ((v3 + 2))))))) <<< ((Int32.toInt64 32) &&& 63))) ||| ((((Int32.toInt64 ((xs (Int32.toNatClampNeg ((v3 + 3))))))) &&& 4294967295)))]) (rest := []) ⟨hx, hb, hml, hown, hts⟩ (mc_X_list l D A σ a_261 ((xs (Int32.toNatClampNeg ((v3 + 1))))) ((((((Int32.toInt64 ((xs (Int32.toNatClampNeg ((v3 + 2))))))) <<< ((Int32.toInt64 32) &&& 63))) ||| ((((Int32.toInt64 ((xs (Int32.toNatClampNeg ((v3 + 3))))))) &&& 4294967295)))) _) ⟨(callB_of 2 hts gw_X_list rfl rfl rfl (hts _ wd_1) (hts _ wd_330) (by decide +kernel) ⟨by decide, by decide⟩), (hts _ wd_331), (hts _ wd_332)⟩ ⟨mw_blind, mg_recv hK.1 hH (ci := 0) rfl (cell_0 t_263), fun U hU hW => ⟨rfl, mw_pass hH hK hA hS hU hW, mn_warm hW hn, h⟩⟩ rfl rfl hl.1 (by rw [e_262]; rfl) (lv_room (Nat.le_of_ble_eq_true rfl)) d_L_law_831 ⟨by show (51 + (513 - (n + 1)) * 1) + 0 ≤ 600000; omega, by show (7072 + (513 - (n + 1)) * 11) + 0 ≤ 7302250; omega⟩) hS (fun r_264 σ_265 H locs h hH hK hS => ?_)
                              refine W.cs (cells' := (51 + (513 - (n + 1)) * 1)) (slots' := (7072 + (513 - (n + 1)) * 11)) (by omega) (by omega) ?_
                              refine mr_aload_n hx hb d_L_law_834 rfl (lv_at hl 2 rfl) ?_
                              refine mr_aload_n hx hb d_L_law_835 rfl (lv_at hl 0 rfl) ?_
                              refine lv_iload_n hx hb d_L_law_836 rfl (lv_at hl 3 rfl) ?_
                              refine lv_iconst (v := 1) hx hb d_L_law_837 (by decide) ?_
                              refine lv_iadd hx hb d_L_law_838 ?_
                              refine va_sld hx hb hX hbl hbA hS b_258 d_L_law_839 ?_
                              refine mr_aload_n hx hb d_L_law_840 rfl (lv_at hl 0 rfl) ?_
                              refine lv_iload_n hx hb d_L_law_841 rfl (lv_at hl 3 rfl) ?_
                              refine lv_iconst (v := 2) hx hb d_L_law_842 (by decide) ?_
                              refine lv_iadd hx hb d_L_law_843 ?_
                              refine va_sld hx hb hX hbl hbA hS b_259 d_L_law_844 ?_
                              refine lv_i2l hx hb d_L_law_845 rfl ?_
                              refine lv_bipush (v := 32) hx hb d_L_law_846 (by decide) ?_
                              refine lv_lshl hx hb d_L_law_848 rfl ?_
                              refine mr_aload_n hx hb d_L_law_849 rfl (lv_at hl 0 rfl) ?_
                              refine lv_iload_n hx hb d_L_law_850 rfl (lv_at hl 3 rfl) ?_
                              refine lv_iconst (v := 3) hx hb d_L_law_851 (by decide) ?_
                              refine lv_iadd hx hb d_L_law_852 ?_
                              refine va_sld hx hb hX hbl hbA hS b_260 d_L_law_853 ?_
                              refine lv_i2l hx hb d_L_law_854 rfl ?_
                              refine lv_ldc2 (v := 4294967295) hx hb hown (hts _ wd_631) d_L_law_855 ?_
                              refine lv_land hx hb d_L_law_858 ?_
                              refine lv_lor hx hb d_L_law_859 ?_
                              obtain ⟨a_269, e_270, t_271, h⟩ := h
                              refine ms_calli (va_runV (As := [.int (xs (Int32.toNatClampNeg ((v3 + 1)))), .long (((((Int32.toInt64 ((xs (Int32.toNatClampNeg ((v3 + 2))))))) <<< ((Int32.toInt64 32) &&& 63))) ||| ((((Int32.toInt64 ((xs (Int32.toNatClampNeg ((v3 + 3))))))) &&& 4294967295)))]) (rest := [.int r_264]) ⟨hx, hb, hml, hown, hts⟩ (mc_M_list l D A σ_265 a_269 ((xs (Int32.toNatClampNeg ((v3 + 1))))) ((((((Int32.toInt64 ((xs (Int32.toNatClampNeg ((v3 + 2))))))) <<< ((Int32.toInt64 32) &&& 63))) ||| ((((Int32.toInt64 ((xs (Int32.toNatClampNeg ((v3 + 3))))))) &&& 4294967295)))) _) ⟨(callB_of 2 hts gw_M_list rfl rfl rfl (hts _ wd_4) (hts _ wd_592) (by decide +kernel) ⟨by decide, by decide⟩), (hts _ wd_593), (hts _ wd_594)⟩ ⟨mw_blind, mg_recv hK.1 hH (ci := 1) rfl (cell_1 t_271), fun U hU hW => ⟨rfl, mw_pass hH hK hA hS hU hW, mn_warm hW hn, h⟩⟩ rfl rfl hl.1 (by rw [e_270]; rfl) (lv_room (Nat.le_of_ble_eq_true rfl)) d_L_law_860 ⟨by show (51 + (513 - (n + 1)) * 1) + 0 ≤ 600000; omega, by show (7072 + (513 - (n + 1)) * 11) + 0 ≤ 7302250; omega⟩) hS (fun r_272 σ_273 H locs h hH hK hS => ?_)
                              refine W.cs (cells' := (51 + (513 - (n + 1)) * 1)) (slots' := (7072 + (513 - (n + 1)) * 11)) (by omega) (by omega) ?_
                              refine lv_icmp_eq (tgt := 1202) hx hb d_L_law_863 (by decide) (fun c_274 => ?_) (fun c_274 => ?_)
                              · have h := h.1 c_274
                                obtain ⟨x_275, q_276⟩ : ∃ y : Int32, y = v3 + 8 := ⟨_, rfl⟩
                                have h := h x_275 q_276
                                refine lv_iinc (v := x_275) (lv' := [(3, .int x_275), (0, va_rf (some b)), (1, va_rf v1), (2, va_rf v2)]) hx hb d_L_law_1202 hl (k := 3) rfl (by rw [q_276]; rfl) (by decide) (by simp [List.filter, cat_rf, cat_i, cat_l, cat_r]) (fun ls hl => ?_)
                                refine lv_goto (tgt := 18) hx hb d_L_law_1205 (by decide) ?_
                                refine W.widen (k := 51 + (513 - n) * 1) (n := 7072 + (513 - n) * 11) (by omega) (by omega) ?_
                                exact ih (by omega) _ _ _ _ _ _ _ hH hK hS (lv_sub hl [1, 2, 3, 0] rfl) h
                              · have h := h.2 c_274
                                refine W.widen (k := 564) (n := 12715) (by omega) (by omega) ?_
                                refine lv_iconst (v := 0) hx hb d_L_law_866 (by decide) ?_
                                exact h.elim
                            · have h := h.2 c_257
                              by_cases c_277 : ((((xs (Int32.toNatClampNeg v3))) &&& 31)) = 11
                              · have h := h.1 c_277
                                refine lv_tableIn (off := 835) (tgt := 868) hx hb d_L_law_33 (by rw [c_277]; decide) (by rw [c_277]; decide) (by rw [c_277]; decide) (by decide) ?_
                                refine mr_aload_n hx hb d_L_law_868 rfl (lv_at hl 1 rfl) ?_
                                refine mr_aload_n hx hb d_L_law_869 rfl (lv_at hl 0 rfl) ?_
                                refine lv_iload_n hx hb d_L_law_870 rfl (lv_at hl 3 rfl) ?_
                                refine lv_iconst (v := 1) hx hb d_L_law_871 (by decide) ?_
                                refine lv_iadd hx hb d_L_law_872 ?_
                                obtain ⟨b_278, h⟩ := h
                                refine va_sld hx hb hX hbl hbA hS b_278 d_L_law_873 ?_
                                refine mr_aload_n hx hb d_L_law_874 rfl (lv_at hl 0 rfl) ?_
                                refine lv_iload_n hx hb d_L_law_875 rfl (lv_at hl 3 rfl) ?_
                                refine lv_iconst (v := 2) hx hb d_L_law_876 (by decide) ?_
                                refine lv_iadd hx hb d_L_law_877 ?_
                                obtain ⟨b_279, h⟩ := h
                                refine va_sld hx hb hX hbl hbA hS b_279 d_L_law_878 ?_
                                refine mr_aload_n hx hb d_L_law_879 rfl (lv_at hl 0 rfl) ?_
                                refine lv_iload_n hx hb d_L_law_880 rfl (lv_at hl 3 rfl) ?_
                                refine lv_iconst (v := 3) hx hb d_L_law_881 (by decide) ?_
                                refine lv_iadd hx hb d_L_law_882 ?_
                                obtain ⟨b_280, h⟩ := h
                                refine va_sld hx hb hX hbl hbA hS b_280 d_L_law_883 ?_
                                refine lv_i2l hx hb d_L_law_884 rfl ?_
                                refine lv_bipush (v := 32) hx hb d_L_law_885 (by decide) ?_
                                refine lv_lshl hx hb d_L_law_887 rfl ?_
                                refine mr_aload_n hx hb d_L_law_888 rfl (lv_at hl 0 rfl) ?_
                                refine lv_iload_n hx hb d_L_law_889 rfl (lv_at hl 3 rfl) ?_
                                refine lv_iconst (v := 4) hx hb d_L_law_890 (by decide) ?_
                                refine lv_iadd hx hb d_L_law_891 ?_
                                obtain ⟨b_281, h⟩ := h
                                refine va_sld hx hb hX hbl hbA hS b_281 d_L_law_892 ?_
                                refine lv_i2l hx hb d_L_law_893 rfl ?_
                                refine lv_ldc2 (v := 4294967295) hx hb hown (hts _ wd_631) d_L_law_894 ?_
                                refine lv_land hx hb d_L_law_897 ?_
                                refine lv_lor hx hb d_L_law_898 ?_
                                obtain ⟨a_282, e_283, t_284, h⟩ := h
                                refine ms_calli (va_runV (As := [.int (xs (Int32.toNatClampNeg ((v3 + 1)))), .int (xs (Int32.toNatClampNeg ((v3 + 2)))), .long (((((Int32.toInt64 ((xs (Int32.toNatClampNeg ((v3 + 3))))))) <<< ((Int32.toInt64 32) &&& 63))) ||| ((((Int32.toInt64 ((xs (Int32.toNatClampNeg ((v3 + 4))))))) &&& 4294967295)))]) (rest := []) ⟨hx, hb, hml, hown, hts⟩ (mc_X_set l D A σ a_282 ((xs (Int32.toNatClampNeg ((v3 + 1))))) ((xs (Int32.toNatClampNeg ((v3 + 2))))) ((((((Int32.toInt64 ((xs (Int32.toNatClampNeg ((v3 + 3))))))) <<< ((Int32.toInt64 32) &&& 63))) ||| ((((Int32.toInt64 ((xs (Int32.toNatClampNeg ((v3 + 4))))))) &&& 4294967295)))) _) ⟨(callB_of 3 hts gw_X_set rfl rfl rfl (hts _ wd_1) (hts _ wd_334) (by decide +kernel) ⟨by decide, by decide⟩), (hts _ wd_335), (hts _ wd_336)⟩ ⟨mw_blind, mg_recv hK.1 hH (ci := 0) rfl (cell_0 t_284), fun U hU hW => ⟨rfl, mw_pass hH hK hA hS hU hW, mn_warm hW hn, h⟩⟩ rfl rfl hl.1 (by rw [e_283]; rfl) (lv_room (Nat.le_of_ble_eq_true rfl)) d_L_law_899 ⟨by show (51 + (513 - (n + 1)) * 1) + 0 ≤ 600000; omega, by show (7072 + (513 - (n + 1)) * 11) + 0 ≤ 7302250; omega⟩) hS (fun r_285 σ_286 H locs h hH hK hS => ?_)
                                refine W.cs (cells' := (51 + (513 - (n + 1)) * 1)) (slots' := (7072 + (513 - (n + 1)) * 11)) (by omega) (by omega) ?_
                                refine mr_aload_n hx hb d_L_law_902 rfl (lv_at hl 2 rfl) ?_
                                refine mr_aload_n hx hb d_L_law_903 rfl (lv_at hl 0 rfl) ?_
                                refine lv_iload_n hx hb d_L_law_904 rfl (lv_at hl 3 rfl) ?_
                                refine lv_iconst (v := 1) hx hb d_L_law_905 (by decide) ?_
                                refine lv_iadd hx hb d_L_law_906 ?_
                                refine va_sld hx hb hX hbl hbA hS b_278 d_L_law_907 ?_
                                refine mr_aload_n hx hb d_L_law_908 rfl (lv_at hl 0 rfl) ?_
                                refine lv_iload_n hx hb d_L_law_909 rfl (lv_at hl 3 rfl) ?_
                                refine lv_iconst (v := 2) hx hb d_L_law_910 (by decide) ?_
                                refine lv_iadd hx hb d_L_law_911 ?_
                                refine va_sld hx hb hX hbl hbA hS b_279 d_L_law_912 ?_
                                refine mr_aload_n hx hb d_L_law_913 rfl (lv_at hl 0 rfl) ?_
                                refine lv_iload_n hx hb d_L_law_914 rfl (lv_at hl 3 rfl) ?_
                                refine lv_iconst (v := 3) hx hb d_L_law_915 (by decide) ?_
                                refine lv_iadd hx hb d_L_law_916 ?_
                                refine va_sld hx hb hX hbl hbA hS b_280 d_L_law_917 ?_
                                refine lv_i2l hx hb d_L_law_918 rfl ?_
                                refine lv_bipush (v := 32) hx hb d_L_law_919 (by decide) ?_
                                refine lv_lshl hx hb d_L_law_921 rfl ?_
                                refine mr_aload_n hx hb d_L_law_922 rfl (lv_at hl 0 rfl) ?_
                                refine lv_iload_n hx hb d_L_law_923 rfl (lv_at hl 3 rfl) ?_
                                refine lv_iconst (v := 4) hx hb d_L_law_924 (by decide) ?_
                                refine lv_iadd hx hb d_L_law_925 ?_
                                refine va_sld hx hb hX hbl hbA hS b_281 d_L_law_926 ?_
                                refine lv_i2l hx hb d_L_law_927 rfl ?_
                                refine lv_ldc2 (v := 4294967295) hx hb hown (hts _ wd_631) d_L_law_928 ?_
                                refine lv_land hx hb d_L_law_931 ?_
                                refine lv_lor hx hb d_L_law_932 ?_
                                obtain ⟨a_291, e_292, t_293, h⟩ := h
                                refine ms_calli (va_runV (As := [.int (xs (Int32.toNatClampNeg ((v3 + 1)))), .int (xs (Int32.toNatClampNeg ((v3 + 2)))), .long (((((Int32.toInt64 ((xs (Int32.toNatClampNeg ((v3 + 3))))))) <<< ((Int32.toInt64 32) &&& 63))) ||| ((((Int32.toInt64 ((xs (Int32.toNatClampNeg ((v3 + 4))))))) &&& 4294967295)))]) (rest := [.int r_285]) ⟨hx, hb, hml, hown, hts⟩ (mc_M_set l D A σ_286 a_291 ((xs (Int32.toNatClampNeg ((v3 + 1))))) ((xs (Int32.toNatClampNeg ((v3 + 2))))) ((((((Int32.toInt64 ((xs (Int32.toNatClampNeg ((v3 + 3))))))) <<< ((Int32.toInt64 32) &&& 63))) ||| ((((Int32.toInt64 ((xs (Int32.toNatClampNeg ((v3 + 4))))))) &&& 4294967295)))) _) ⟨(callB_of 3 hts gw_M_set rfl rfl rfl (hts _ wd_4) (hts _ wd_600) (by decide +kernel) ⟨by decide, by decide⟩), (hts _ wd_601), (hts _ wd_602)⟩ ⟨mw_blind, mg_recv hK.1 hH (ci := 1) rfl (cell_1 t_293), fun U hU hW => ⟨rfl, mw_pass hH hK hA hS hU hW, mn_warm hW hn, h⟩⟩ rfl rfl hl.1 (by rw [e_292]; rfl) (lv_room (Nat.le_of_ble_eq_true rfl)) d_L_law_933 ⟨by show (51 + (513 - (n + 1)) * 1) + 0 ≤ 600000; omega, by show (7072 + (513 - (n + 1)) * 11) + 0 ≤ 7302250; omega⟩) hS (fun r_294 σ_295 H locs h hH hK hS => ?_)
                                refine W.cs (cells' := (51 + (513 - (n + 1)) * 1)) (slots' := (7072 + (513 - (n + 1)) * 11)) (by omega) (by omega) ?_
                                refine lv_icmp_eq (tgt := 1202) hx hb d_L_law_936 (by decide) (fun c_296 => ?_) (fun c_296 => ?_)
                                · have h := h.1 c_296
                                  obtain ⟨x_297, q_298⟩ : ∃ y : Int32, y = v3 + 8 := ⟨_, rfl⟩
                                  have h := h x_297 q_298
                                  refine lv_iinc (v := x_297) (lv' := [(3, .int x_297), (0, va_rf (some b)), (1, va_rf v1), (2, va_rf v2)]) hx hb d_L_law_1202 hl (k := 3) rfl (by rw [q_298]; rfl) (by decide) (by simp [List.filter, cat_rf, cat_i, cat_l, cat_r]) (fun ls hl => ?_)
                                  refine lv_goto (tgt := 18) hx hb d_L_law_1205 (by decide) ?_
                                  refine W.widen (k := 51 + (513 - n) * 1) (n := 7072 + (513 - n) * 11) (by omega) (by omega) ?_
                                  exact ih (by omega) _ _ _ _ _ _ _ hH hK hS (lv_sub hl [1, 2, 3, 0] rfl) h
                                · have h := h.2 c_296
                                  refine W.widen (k := 564) (n := 12715) (by omega) (by omega) ?_
                                  refine lv_iconst (v := 0) hx hb d_L_law_939 (by decide) ?_
                                  exact h.elim
                              · have h := h.2 c_277
                                by_cases c_299 : ((((xs (Int32.toNatClampNeg v3))) &&& 31)) = 12
                                · have h := h.1 c_299
                                  refine lv_tableIn (off := 908) (tgt := 941) hx hb d_L_law_33 (by rw [c_299]; decide) (by rw [c_299]; decide) (by rw [c_299]; decide) (by decide) ?_
                                  refine mr_aload_n hx hb d_L_law_941 rfl (lv_at hl 1 rfl) ?_
                                  refine mr_aload_n hx hb d_L_law_942 rfl (lv_at hl 0 rfl) ?_
                                  refine lv_iload_n hx hb d_L_law_943 rfl (lv_at hl 3 rfl) ?_
                                  refine lv_iconst (v := 1) hx hb d_L_law_944 (by decide) ?_
                                  refine lv_iadd hx hb d_L_law_945 ?_
                                  obtain ⟨b_300, h⟩ := h
                                  refine va_sld hx hb hX hbl hbA hS b_300 d_L_law_946 ?_
                                  refine mr_aload_n hx hb d_L_law_947 rfl (lv_at hl 0 rfl) ?_
                                  refine lv_iload_n hx hb d_L_law_948 rfl (lv_at hl 3 rfl) ?_
                                  refine lv_iconst (v := 2) hx hb d_L_law_949 (by decide) ?_
                                  refine lv_iadd hx hb d_L_law_950 ?_
                                  obtain ⟨b_301, h⟩ := h
                                  refine va_sld hx hb hX hbl hbA hS b_301 d_L_law_951 ?_
                                  refine lv_i2l hx hb d_L_law_952 rfl ?_
                                  refine lv_bipush (v := 32) hx hb d_L_law_953 (by decide) ?_
                                  refine lv_lshl hx hb d_L_law_955 rfl ?_
                                  refine mr_aload_n hx hb d_L_law_956 rfl (lv_at hl 0 rfl) ?_
                                  refine lv_iload_n hx hb d_L_law_957 rfl (lv_at hl 3 rfl) ?_
                                  refine lv_iconst (v := 3) hx hb d_L_law_958 (by decide) ?_
                                  refine lv_iadd hx hb d_L_law_959 ?_
                                  obtain ⟨b_302, h⟩ := h
                                  refine va_sld hx hb hX hbl hbA hS b_302 d_L_law_960 ?_
                                  refine lv_i2l hx hb d_L_law_961 rfl ?_
                                  refine lv_ldc2 (v := 4294967295) hx hb hown (hts _ wd_631) d_L_law_962 ?_
                                  refine lv_land hx hb d_L_law_965 ?_
                                  refine lv_lor hx hb d_L_law_966 ?_
                                  refine mr_aload_n hx hb d_L_law_967 rfl (lv_at hl 0 rfl) ?_
                                  refine lv_iload_n hx hb d_L_law_968 rfl (lv_at hl 3 rfl) ?_
                                  refine lv_iconst (v := 4) hx hb d_L_law_969 (by decide) ?_
                                  refine lv_iadd hx hb d_L_law_970 ?_
                                  obtain ⟨b_303, h⟩ := h
                                  refine va_sld hx hb hX hbl hbA hS b_303 d_L_law_971 ?_
                                  obtain ⟨a_304, e_305, t_306, h⟩ := h
                                  refine ms_calli (va_runV (As := [.int (xs (Int32.toNatClampNeg ((v3 + 1)))), .long (((((Int32.toInt64 ((xs (Int32.toNatClampNeg ((v3 + 2))))))) <<< ((Int32.toInt64 32) &&& 63))) ||| ((((Int32.toInt64 ((xs (Int32.toNatClampNeg ((v3 + 3))))))) &&& 4294967295))), .int (xs (Int32.toNatClampNeg ((v3 + 4))))]) (rest := []) ⟨hx, hb, hml, hown, hts⟩ (mc_X_collect l D A σ a_304 ((xs (Int32.toNatClampNeg ((v3 + 1))))) ((((((Int32.toInt64 ((xs (Int32.toNatClampNeg ((v3 + 2))))))) <<< ((Int32.toInt64 32) &&& 63))) ||| ((((Int32.toInt64 ((xs (Int32.toNatClampNeg ((v3 + 3))))))) &&& 4294967295)))) ((xs (Int32.toNatClampNeg ((v3 + 4))))) _) ⟨(callB_of 3 hts gw_X_collect rfl rfl rfl (hts _ wd_1) (hts _ wd_352) (by decide +kernel) ⟨by decide, by decide⟩), (hts _ wd_353), (hts _ wd_354)⟩ ⟨mw_blind, mg_recv hK.1 hH (ci := 0) rfl (cell_0 t_306), fun U hU hW => ⟨rfl, mw_pass hH hK hA hS hU hW, mn_warm hW hn, h⟩⟩ rfl rfl hl.1 (by rw [e_305]; rfl) (lv_room (Nat.le_of_ble_eq_true rfl)) d_L_law_972 ⟨by show (51 + (513 - (n + 1)) * 1) + 1 ≤ 600000; omega, by show (7072 + (513 - (n + 1)) * 11) + 3 ≤ 7302250; omega⟩) hS (fun r_307 σ_308 H locs h hH hK hS => ?_)
                                  refine W.cs (cells' := (52 + (513 - (n + 1)) * 1)) (slots' := (7075 + (513 - (n + 1)) * 11)) (by omega) (by omega) ?_
                                  refine mr_aload_n hx hb d_L_law_975 rfl (lv_at hl 2 rfl) ?_
                                  refine mr_aload_n hx hb d_L_law_976 rfl (lv_at hl 0 rfl) ?_
                                  refine lv_iload_n hx hb d_L_law_977 rfl (lv_at hl 3 rfl) ?_
                                  refine lv_iconst (v := 1) hx hb d_L_law_978 (by decide) ?_
                                  refine lv_iadd hx hb d_L_law_979 ?_
                                  refine va_sld hx hb hX hbl hbA hS b_300 d_L_law_980 ?_
                                  refine mr_aload_n hx hb d_L_law_981 rfl (lv_at hl 0 rfl) ?_
                                  refine lv_iload_n hx hb d_L_law_982 rfl (lv_at hl 3 rfl) ?_
                                  refine lv_iconst (v := 2) hx hb d_L_law_983 (by decide) ?_
                                  refine lv_iadd hx hb d_L_law_984 ?_
                                  refine va_sld hx hb hX hbl hbA hS b_301 d_L_law_985 ?_
                                  refine lv_i2l hx hb d_L_law_986 rfl ?_
                                  refine lv_bipush (v := 32) hx hb d_L_law_987 (by decide) ?_
                                  refine lv_lshl hx hb d_L_law_989 rfl ?_
                                  refine mr_aload_n hx hb d_L_law_990 rfl (lv_at hl 0 rfl) ?_
                                  refine lv_iload_n hx hb d_L_law_991 rfl (lv_at hl 3 rfl) ?_
                                  refine lv_iconst (v := 3) hx hb d_L_law_992 (by decide) ?_
                                  refine lv_iadd hx hb d_L_law_993 ?_
                                  refine va_sld hx hb hX hbl hbA hS b_302 d_L_law_994 ?_
                                  refine lv_i2l hx hb d_L_law_995 rfl ?_
                                  refine lv_ldc2 (v := 4294967295) hx hb hown (hts _ wd_631) d_L_law_996 ?_
                                  refine lv_land hx hb d_L_law_999 ?_
                                  refine lv_lor hx hb d_L_law_1000 ?_
                                  refine mr_aload_n hx hb d_L_law_1001 rfl (lv_at hl 0 rfl) ?_
                                  refine lv_iload_n hx hb d_L_law_1002 rfl (lv_at hl 3 rfl) ?_
                                  refine lv_iconst (v := 4) hx hb d_L_law_1003 (by decide) ?_
                                  refine lv_iadd hx hb d_L_law_1004 ?_
                                  refine va_sld hx hb hX hbl hbA hS b_303 d_L_law_1005 ?_
                                  obtain ⟨a_313, e_314, t_315, h⟩ := h
                                  refine ms_calli (va_runV (As := [.int (xs (Int32.toNatClampNeg ((v3 + 1)))), .long (((((Int32.toInt64 ((xs (Int32.toNatClampNeg ((v3 + 2))))))) <<< ((Int32.toInt64 32) &&& 63))) ||| ((((Int32.toInt64 ((xs (Int32.toNatClampNeg ((v3 + 3))))))) &&& 4294967295))), .int (xs (Int32.toNatClampNeg ((v3 + 4))))]) (rest := [.int r_307]) ⟨hx, hb, hml, hown, hts⟩ (mc_M_collect l D A σ_308 a_313 ((xs (Int32.toNatClampNeg ((v3 + 1))))) ((((((Int32.toInt64 ((xs (Int32.toNatClampNeg ((v3 + 2))))))) <<< ((Int32.toInt64 32) &&& 63))) ||| ((((Int32.toInt64 ((xs (Int32.toNatClampNeg ((v3 + 3))))))) &&& 4294967295)))) ((xs (Int32.toNatClampNeg ((v3 + 4))))) _) ⟨(callB_of 3 hts gw_M_collect rfl rfl rfl (hts _ wd_4) (hts _ wd_608) (by decide +kernel) ⟨by decide, by decide⟩), (hts _ wd_609), (hts _ wd_610)⟩ ⟨mw_blind, mg_recv hK.1 hH (ci := 1) rfl (cell_1 t_315), fun U hU hW => ⟨rfl, mw_pass hH hK hA hS hU hW, mn_warm hW hn, h⟩⟩ rfl rfl hl.1 (by rw [e_314]; rfl) (lv_room (Nat.le_of_ble_eq_true rfl)) d_L_law_1006 ⟨by show (52 + (513 - (n + 1)) * 1) + 0 ≤ 600000; omega, by show (7075 + (513 - (n + 1)) * 11) + 0 ≤ 7302250; omega⟩) hS (fun r_316 σ_317 H locs h hH hK hS => ?_)
                                  refine W.cs (cells' := (52 + (513 - (n + 1)) * 1)) (slots' := (7075 + (513 - (n + 1)) * 11)) (by omega) (by omega) ?_
                                  refine lv_icmp_eq (tgt := 1202) hx hb d_L_law_1009 (by decide) (fun c_318 => ?_) (fun c_318 => ?_)
                                  · have h := h.1 c_318
                                    obtain ⟨x_319, q_320⟩ : ∃ y : Int32, y = v3 + 8 := ⟨_, rfl⟩
                                    have h := h x_319 q_320
                                    refine lv_iinc (v := x_319) (lv' := [(3, .int x_319), (0, va_rf (some b)), (1, va_rf v1), (2, va_rf v2)]) hx hb d_L_law_1202 hl (k := 3) rfl (by rw [q_320]; rfl) (by decide) (by simp [List.filter, cat_rf, cat_i, cat_l, cat_r]) (fun ls hl => ?_)
                                    refine lv_goto (tgt := 18) hx hb d_L_law_1205 (by decide) ?_
                                    refine W.widen (k := 51 + (513 - n) * 1) (n := 7072 + (513 - n) * 11) (by omega) (by omega) ?_
                                    exact ih (by omega) _ _ _ _ _ _ _ hH hK hS (lv_sub hl [1, 2, 3, 0] rfl) h
                                  · have h := h.2 c_318
                                    refine W.widen (k := 565) (n := 12718) (by omega) (by omega) ?_
                                    refine lv_iconst (v := 0) hx hb d_L_law_1012 (by decide) ?_
                                    exact h.elim
                                · have h := h.2 c_299
                                  by_cases c_321 : ((((xs (Int32.toNatClampNeg v3))) &&& 31)) = 13
                                  · have h := h.1 c_321
                                    refine lv_tableIn (off := 981) (tgt := 1014) hx hb d_L_law_33 (by rw [c_321]; decide) (by rw [c_321]; decide) (by rw [c_321]; decide) (by decide) ?_
                                    refine mr_aload_n hx hb d_L_law_1014 rfl (lv_at hl 1 rfl) ?_
                                    refine mr_aload_n hx hb d_L_law_1015 rfl (lv_at hl 0 rfl) ?_
                                    refine lv_iload_n hx hb d_L_law_1016 rfl (lv_at hl 3 rfl) ?_
                                    refine lv_iconst (v := 1) hx hb d_L_law_1017 (by decide) ?_
                                    refine lv_iadd hx hb d_L_law_1018 ?_
                                    obtain ⟨b_322, h⟩ := h
                                    refine va_sld hx hb hX hbl hbA hS b_322 d_L_law_1019 ?_
                                    obtain ⟨a_323, e_324, t_325, h⟩ := h
                                    refine ms_calli (va_runV (As := [.int (xs (Int32.toNatClampNeg ((v3 + 1))))]) (rest := []) ⟨hx, hb, hml, hown, hts⟩ (mc_X_pass l D A σ a_323 ((xs (Int32.toNatClampNeg ((v3 + 1))))) _) ⟨(callB_of 1 hts gw_X_pass rfl rfl rfl (hts _ wd_1) (hts _ wd_377) (by decide +kernel) ⟨by decide, by decide⟩), (hts _ wd_378), (hts _ wd_379)⟩ ⟨mw_blind, mg_recv hK.1 hH (ci := 0) rfl (cell_0 t_325), fun U hU hW => ⟨rfl, mw_pass hH hK hA hS hU hW, mn_warm hW hn, h⟩⟩ rfl rfl hl.1 (by rw [e_324]; rfl) (lv_room (Nat.le_of_ble_eq_true rfl)) d_L_law_1020 ⟨by show (51 + (513 - (n + 1)) * 1) + 0 ≤ 600000; omega, by show (7072 + (513 - (n + 1)) * 11) + 0 ≤ 7302250; omega⟩) hS (fun r_326 σ_327 H locs h hH hK hS => ?_)
                                    refine W.cs (cells' := (51 + (513 - (n + 1)) * 1)) (slots' := (7072 + (513 - (n + 1)) * 11)) (by omega) (by omega) ?_
                                    refine mr_aload_n hx hb d_L_law_1023 rfl (lv_at hl 2 rfl) ?_
                                    refine mr_aload_n hx hb d_L_law_1024 rfl (lv_at hl 0 rfl) ?_
                                    refine lv_iload_n hx hb d_L_law_1025 rfl (lv_at hl 3 rfl) ?_
                                    refine lv_iconst (v := 1) hx hb d_L_law_1026 (by decide) ?_
                                    refine lv_iadd hx hb d_L_law_1027 ?_
                                    refine va_sld hx hb hX hbl hbA hS b_322 d_L_law_1028 ?_
                                    obtain ⟨a_329, e_330, t_331, h⟩ := h
                                    refine ms_calli (va_runV (As := [.int (xs (Int32.toNatClampNeg ((v3 + 1))))]) (rest := [.int r_326]) ⟨hx, hb, hml, hown, hts⟩ (mc_M_pass l D A σ_327 a_329 ((xs (Int32.toNatClampNeg ((v3 + 1))))) _) ⟨(callB_of 1 hts gw_M_pass rfl rfl rfl (hts _ wd_4) (hts _ wd_613) (by decide +kernel) ⟨by decide, by decide⟩), (hts _ wd_614), (hts _ wd_615)⟩ ⟨mw_blind, mg_recv hK.1 hH (ci := 1) rfl (cell_1 t_331), fun U hU hW => ⟨rfl, mw_pass hH hK hA hS hU hW, mn_warm hW hn, h⟩⟩ rfl rfl hl.1 (by rw [e_330]; rfl) (lv_room (Nat.le_of_ble_eq_true rfl)) d_L_law_1029 ⟨by show (51 + (513 - (n + 1)) * 1) + 0 ≤ 600000; omega, by show (7072 + (513 - (n + 1)) * 11) + 0 ≤ 7302250; omega⟩) hS (fun r_332 σ_333 H locs h hH hK hS => ?_)
                                    refine W.cs (cells' := (51 + (513 - (n + 1)) * 1)) (slots' := (7072 + (513 - (n + 1)) * 11)) (by omega) (by omega) ?_
                                    refine lv_icmp_eq (tgt := 1202) hx hb d_L_law_1032 (by decide) (fun c_334 => ?_) (fun c_334 => ?_)
                                    · have h := h.1 c_334
                                      obtain ⟨x_335, q_336⟩ : ∃ y : Int32, y = v3 + 8 := ⟨_, rfl⟩
                                      have h := h x_335 q_336
                                      refine lv_iinc (v := x_335) (lv' := [(3, .int x_335), (0, va_rf (some b)), (1, va_rf v1), (2, va_rf v2)]) hx hb d_L_law_1202 hl (k := 3) rfl (by rw [q_336]; rfl) (by decide) (by simp [List.filter, cat_rf, cat_i, cat_l, cat_r]) (fun ls hl => ?_)
                                      refine lv_goto (tgt := 18) hx hb d_L_law_1205 (by decide) ?_
                                      refine W.widen (k := 51 + (513 - n) * 1) (n := 7072 + (513 - n) * 11) (by omega) (by omega) ?_
                                      exact ih (by omega) _ _ _ _ _ _ _ hH hK hS (lv_sub hl [1, 2, 3, 0] rfl) h
                                    · have h := h.2 c_334
                                      refine W.widen (k := 564) (n := 12715) (by omega) (by omega) ?_
                                      refine lv_iconst (v := 0) hx hb d_L_law_1035 (by decide) ?_
                                      exact h.elim
                                  · have h := h.2 c_321
                                    by_cases c_337 : ((((xs (Int32.toNatClampNeg v3))) &&& 31)) = 14
                                    · have h := h.1 c_337
                                      refine lv_tableIn (off := 1004) (tgt := 1037) hx hb d_L_law_33 (by rw [c_337]; decide) (by rw [c_337]; decide) (by rw [c_337]; decide) (by decide) ?_
                                      refine mr_aload_n hx hb d_L_law_1037 rfl (lv_at hl 1 rfl) ?_
                                      refine mr_aload_n hx hb d_L_law_1038 rfl (lv_at hl 0 rfl) ?_
                                      refine lv_iload_n hx hb d_L_law_1039 rfl (lv_at hl 3 rfl) ?_
                                      refine lv_iconst (v := 1) hx hb d_L_law_1040 (by decide) ?_
                                      refine lv_iadd hx hb d_L_law_1041 ?_
                                      obtain ⟨b_338, h⟩ := h
                                      refine va_sld hx hb hX hbl hbA hS b_338 d_L_law_1042 ?_
                                      refine lv_i2l hx hb d_L_law_1043 rfl ?_
                                      refine lv_bipush (v := 32) hx hb d_L_law_1044 (by decide) ?_
                                      refine lv_lshl hx hb d_L_law_1046 rfl ?_
                                      refine mr_aload_n hx hb d_L_law_1047 rfl (lv_at hl 0 rfl) ?_
                                      refine lv_iload_n hx hb d_L_law_1048 rfl (lv_at hl 3 rfl) ?_
                                      refine lv_iconst (v := 2) hx hb d_L_law_1049 (by decide) ?_
                                      refine lv_iadd hx hb d_L_law_1050 ?_
                                      obtain ⟨b_339, h⟩ := h
                                      refine va_sld hx hb hX hbl hbA hS b_339 d_L_law_1051 ?_
                                      refine lv_i2l hx hb d_L_law_1052 rfl ?_
                                      refine lv_ldc2 (v := 4294967295) hx hb hown (hts _ wd_631) d_L_law_1053 ?_
                                      refine lv_land hx hb d_L_law_1056 ?_
                                      refine lv_lor hx hb d_L_law_1057 ?_
                                      obtain ⟨a_340, e_341, t_342, h⟩ := h
                                      refine ms_calli (va_runV (As := [.long (((((Int32.toInt64 ((xs (Int32.toNatClampNeg ((v3 + 1))))))) <<< ((Int32.toInt64 32) &&& 63))) ||| ((((Int32.toInt64 ((xs (Int32.toNatClampNeg ((v3 + 2))))))) &&& 4294967295)))]) (rest := []) ⟨hx, hb, hml, hown, hts⟩ (mc_X_tick l D A σ a_340 ((((((Int32.toInt64 ((xs (Int32.toNatClampNeg ((v3 + 1))))))) <<< ((Int32.toInt64 32) &&& 63))) ||| ((((Int32.toInt64 ((xs (Int32.toNatClampNeg ((v3 + 2))))))) &&& 4294967295)))) _) ⟨(callB_of 1 hts gw_X_tick rfl rfl rfl (hts _ wd_1) (hts _ wd_385) (by decide +kernel) ⟨by decide, by decide⟩), (hts _ wd_386), (hts _ wd_387)⟩ ⟨mw_blind, mg_recv hK.1 hH (ci := 0) rfl (cell_0 t_342), fun U hU hW => ⟨rfl, mw_pass hH hK hA hS hU hW, mn_warm hW hn, h⟩⟩ rfl rfl hl.1 (by rw [e_341]; rfl) (lv_room (Nat.le_of_ble_eq_true rfl)) d_L_law_1058 ⟨by show (51 + (513 - (n + 1)) * 1) + 0 ≤ 600000; omega, by show (7072 + (513 - (n + 1)) * 11) + 0 ≤ 7302250; omega⟩) hS (fun r_343 σ_344 H locs h hH hK hS => ?_)
                                      refine W.cs (cells' := (51 + (513 - (n + 1)) * 1)) (slots' := (7072 + (513 - (n + 1)) * 11)) (by omega) (by omega) ?_
                                      refine mr_aload_n hx hb d_L_law_1061 rfl (lv_at hl 2 rfl) ?_
                                      refine mr_aload_n hx hb d_L_law_1062 rfl (lv_at hl 0 rfl) ?_
                                      refine lv_iload_n hx hb d_L_law_1063 rfl (lv_at hl 3 rfl) ?_
                                      refine lv_iconst (v := 1) hx hb d_L_law_1064 (by decide) ?_
                                      refine lv_iadd hx hb d_L_law_1065 ?_
                                      refine va_sld hx hb hX hbl hbA hS b_338 d_L_law_1066 ?_
                                      refine lv_i2l hx hb d_L_law_1067 rfl ?_
                                      refine lv_bipush (v := 32) hx hb d_L_law_1068 (by decide) ?_
                                      refine lv_lshl hx hb d_L_law_1070 rfl ?_
                                      refine mr_aload_n hx hb d_L_law_1071 rfl (lv_at hl 0 rfl) ?_
                                      refine lv_iload_n hx hb d_L_law_1072 rfl (lv_at hl 3 rfl) ?_
                                      refine lv_iconst (v := 2) hx hb d_L_law_1073 (by decide) ?_
                                      refine lv_iadd hx hb d_L_law_1074 ?_
                                      refine va_sld hx hb hX hbl hbA hS b_339 d_L_law_1075 ?_
                                      refine lv_i2l hx hb d_L_law_1076 rfl ?_
                                      refine lv_ldc2 (v := 4294967295) hx hb hown (hts _ wd_631) d_L_law_1077 ?_
                                      refine lv_land hx hb d_L_law_1080 ?_
                                      refine lv_lor hx hb d_L_law_1081 ?_
                                      obtain ⟨a_347, e_348, t_349, h⟩ := h
                                      refine ms_calli (va_runV (As := [.long (((((Int32.toInt64 ((xs (Int32.toNatClampNeg ((v3 + 1))))))) <<< ((Int32.toInt64 32) &&& 63))) ||| ((((Int32.toInt64 ((xs (Int32.toNatClampNeg ((v3 + 2))))))) &&& 4294967295)))]) (rest := [.int r_343]) ⟨hx, hb, hml, hown, hts⟩ (mc_M_tick l D A σ_344 a_347 ((((((Int32.toInt64 ((xs (Int32.toNatClampNeg ((v3 + 1))))))) <<< ((Int32.toInt64 32) &&& 63))) ||| ((((Int32.toInt64 ((xs (Int32.toNatClampNeg ((v3 + 2))))))) &&& 4294967295)))) _) ⟨(callB_of 1 hts gw_M_tick rfl rfl rfl (hts _ wd_4) (hts _ wd_584) (by decide +kernel) ⟨by decide, by decide⟩), (hts _ wd_585), (hts _ wd_586)⟩ ⟨mw_blind, mg_recv hK.1 hH (ci := 1) rfl (cell_1 t_349), fun U hU hW => ⟨rfl, mw_pass hH hK hA hS hU hW, mn_warm hW hn, h⟩⟩ rfl rfl hl.1 (by rw [e_348]; rfl) (lv_room (Nat.le_of_ble_eq_true rfl)) d_L_law_1082 ⟨by show (51 + (513 - (n + 1)) * 1) + 0 ≤ 600000; omega, by show (7072 + (513 - (n + 1)) * 11) + 0 ≤ 7302250; omega⟩) hS (fun r_350 σ_351 H locs h hH hK hS => ?_)
                                      refine W.cs (cells' := (51 + (513 - (n + 1)) * 1)) (slots' := (7072 + (513 - (n + 1)) * 11)) (by omega) (by omega) ?_
                                      refine lv_icmp_eq (tgt := 1202) hx hb d_L_law_1085 (by decide) (fun c_352 => ?_) (fun c_352 => ?_)
                                      · have h := h.1 c_352
                                        obtain ⟨x_353, q_354⟩ : ∃ y : Int32, y = v3 + 8 := ⟨_, rfl⟩
                                        have h := h x_353 q_354
                                        refine lv_iinc (v := x_353) (lv' := [(3, .int x_353), (0, va_rf (some b)), (1, va_rf v1), (2, va_rf v2)]) hx hb d_L_law_1202 hl (k := 3) rfl (by rw [q_354]; rfl) (by decide) (by simp [List.filter, cat_rf, cat_i, cat_l, cat_r]) (fun ls hl => ?_)
                                        refine lv_goto (tgt := 18) hx hb d_L_law_1205 (by decide) ?_
                                        refine W.widen (k := 51 + (513 - n) * 1) (n := 7072 + (513 - n) * 11) (by omega) (by omega) ?_
                                        exact ih (by omega) _ _ _ _ _ _ _ hH hK hS (lv_sub hl [1, 2, 3, 0] rfl) h
                                      · have h := h.2 c_352
                                        refine W.widen (k := 564) (n := 12715) (by omega) (by omega) ?_
                                        refine lv_iconst (v := 0) hx hb d_L_law_1088 (by decide) ?_
                                        exact h.elim
                                    · have h := h.2 c_337
                                      by_cases c_355 : ((((xs (Int32.toNatClampNeg v3))) &&& 31)) = 15
                                      · have h := h.1 c_355
                                        refine lv_tableIn (off := 1057) (tgt := 1090) hx hb d_L_law_33 (by rw [c_355]; decide) (by rw [c_355]; decide) (by rw [c_355]; decide) (by decide) ?_
                                        refine mr_aload_n hx hb d_L_law_1090 rfl (lv_at hl 1 rfl) ?_
                                        refine mr_aload_n hx hb d_L_law_1091 rfl (lv_at hl 0 rfl) ?_
                                        refine lv_iload_n hx hb d_L_law_1092 rfl (lv_at hl 3 rfl) ?_
                                        refine lv_iconst (v := 1) hx hb d_L_law_1093 (by decide) ?_
                                        refine lv_iadd hx hb d_L_law_1094 ?_
                                        obtain ⟨b_356, h⟩ := h
                                        refine va_sld hx hb hX hbl hbA hS b_356 d_L_law_1095 ?_
                                        refine lv_i2l hx hb d_L_law_1096 rfl ?_
                                        refine lv_bipush (v := 32) hx hb d_L_law_1097 (by decide) ?_
                                        refine lv_lshl hx hb d_L_law_1099 rfl ?_
                                        refine mr_aload_n hx hb d_L_law_1100 rfl (lv_at hl 0 rfl) ?_
                                        refine lv_iload_n hx hb d_L_law_1101 rfl (lv_at hl 3 rfl) ?_
                                        refine lv_iconst (v := 2) hx hb d_L_law_1102 (by decide) ?_
                                        refine lv_iadd hx hb d_L_law_1103 ?_
                                        obtain ⟨b_357, h⟩ := h
                                        refine va_sld hx hb hX hbl hbA hS b_357 d_L_law_1104 ?_
                                        refine lv_i2l hx hb d_L_law_1105 rfl ?_
                                        refine lv_ldc2 (v := 4294967295) hx hb hown (hts _ wd_631) d_L_law_1106 ?_
                                        refine lv_land hx hb d_L_law_1109 ?_
                                        refine lv_lor hx hb d_L_law_1110 ?_
                                        refine mr_aload_n hx hb d_L_law_1111 rfl (lv_at hl 0 rfl) ?_
                                        refine lv_iload_n hx hb d_L_law_1112 rfl (lv_at hl 3 rfl) ?_
                                        refine lv_iconst (v := 3) hx hb d_L_law_1113 (by decide) ?_
                                        refine lv_iadd hx hb d_L_law_1114 ?_
                                        obtain ⟨b_358, h⟩ := h
                                        refine va_sld hx hb hX hbl hbA hS b_358 d_L_law_1115 ?_
                                        obtain ⟨a_359, e_360, t_361, h⟩ := h
                                        refine ms_calll (va_runV (As := [.long (((((Int32.toInt64 ((xs (Int32.toNatClampNeg ((v3 + 1))))))) <<< ((Int32.toInt64 32) &&& 63))) ||| ((((Int32.toInt64 ((xs (Int32.toNatClampNeg ((v3 + 2))))))) &&& 4294967295))), .int (xs (Int32.toNatClampNeg ((v3 + 3))))]) (rest := []) ⟨hx, hb, hml, hown, hts⟩ (mc_X_about l D A σ a_359 ((((((Int32.toInt64 ((xs (Int32.toNatClampNeg ((v3 + 1))))))) <<< ((Int32.toInt64 32) &&& 63))) ||| ((((Int32.toInt64 ((xs (Int32.toNatClampNeg ((v3 + 2))))))) &&& 4294967295)))) ((xs (Int32.toNatClampNeg ((v3 + 3))))) _) ⟨(callB_of 2 hts gw_X_about rfl rfl rfl (hts _ wd_1) (hts _ wd_393) (by decide +kernel) ⟨by decide, by decide⟩), (hts _ wd_394), (hts _ wd_395)⟩ ⟨mw_blind, mg_recv hK.1 hH (ci := 0) rfl (cell_0 t_361), fun U hU hW => ⟨rfl, mw_pass hH hK hA hS hU hW, mn_warm hW hn, h⟩⟩ rfl rfl hl.1 (by rw [e_360]; rfl) (lv_room (Nat.le_of_ble_eq_true rfl)) d_L_law_1116 ⟨by show (51 + (513 - (n + 1)) * 1) + 0 ≤ 600000; omega, by show (7072 + (513 - (n + 1)) * 11) + 0 ≤ 7302250; omega⟩) hS (fun r_362 σ_363 H locs h hH hK hS => ?_)
                                        refine W.cs (cells' := (51 + (513 - (n + 1)) * 1)) (slots' := (7072 + (513 - (n + 1)) * 11)) (by omega) (by omega) ?_
                                        refine mr_aload_n hx hb d_L_law_1119 rfl (lv_at hl 2 rfl) ?_
                                        refine mr_aload_n hx hb d_L_law_1120 rfl (lv_at hl 0 rfl) ?_
                                        refine lv_iload_n hx hb d_L_law_1121 rfl (lv_at hl 3 rfl) ?_
                                        refine lv_iconst (v := 1) hx hb d_L_law_1122 (by decide) ?_
                                        refine lv_iadd hx hb d_L_law_1123 ?_
                                        refine va_sld hx hb hX hbl hbA hS b_356 d_L_law_1124 ?_
                                        refine lv_i2l hx hb d_L_law_1125 rfl ?_
                                        refine lv_bipush (v := 32) hx hb d_L_law_1126 (by decide) ?_
                                        refine lv_lshl hx hb d_L_law_1128 rfl ?_
                                        refine mr_aload_n hx hb d_L_law_1129 rfl (lv_at hl 0 rfl) ?_
                                        refine lv_iload_n hx hb d_L_law_1130 rfl (lv_at hl 3 rfl) ?_
                                        refine lv_iconst (v := 2) hx hb d_L_law_1131 (by decide) ?_
                                        refine lv_iadd hx hb d_L_law_1132 ?_
                                        refine va_sld hx hb hX hbl hbA hS b_357 d_L_law_1133 ?_
                                        refine lv_i2l hx hb d_L_law_1134 rfl ?_
                                        refine lv_ldc2 (v := 4294967295) hx hb hown (hts _ wd_631) d_L_law_1135 ?_
                                        refine lv_land hx hb d_L_law_1138 ?_
                                        refine lv_lor hx hb d_L_law_1139 ?_
                                        refine mr_aload_n hx hb d_L_law_1140 rfl (lv_at hl 0 rfl) ?_
                                        refine lv_iload_n hx hb d_L_law_1141 rfl (lv_at hl 3 rfl) ?_
                                        refine lv_iconst (v := 3) hx hb d_L_law_1142 (by decide) ?_
                                        refine lv_iadd hx hb d_L_law_1143 ?_
                                        refine va_sld hx hb hX hbl hbA hS b_358 d_L_law_1144 ?_
                                        obtain ⟨a_367, e_368, t_369, h⟩ := h
                                        refine ms_calll (va_runV (As := [.long (((((Int32.toInt64 ((xs (Int32.toNatClampNeg ((v3 + 1))))))) <<< ((Int32.toInt64 32) &&& 63))) ||| ((((Int32.toInt64 ((xs (Int32.toNatClampNeg ((v3 + 2))))))) &&& 4294967295))), .int (xs (Int32.toNatClampNeg ((v3 + 3))))]) (rest := [.long r_362]) ⟨hx, hb, hml, hown, hts⟩ (mc_M_about l D A σ_363 a_367 ((((((Int32.toInt64 ((xs (Int32.toNatClampNeg ((v3 + 1))))))) <<< ((Int32.toInt64 32) &&& 63))) ||| ((((Int32.toInt64 ((xs (Int32.toNatClampNeg ((v3 + 2))))))) &&& 4294967295)))) ((xs (Int32.toNatClampNeg ((v3 + 3))))) _) ⟨(callB_of 2 hts gw_M_about rfl rfl rfl (hts _ wd_4) (hts _ wd_617) (by decide +kernel) ⟨by decide, by decide⟩), (hts _ wd_618), (hts _ wd_619)⟩ ⟨mw_blind, mg_recv hK.1 hH (ci := 1) rfl (cell_1 t_369), fun U hU hW => ⟨rfl, mw_pass hH hK hA hS hU hW, mn_warm hW hn, h⟩⟩ rfl rfl hl.1 (by rw [e_368]; rfl) (lv_room (Nat.le_of_ble_eq_true rfl)) d_L_law_1145 ⟨by show (51 + (513 - (n + 1)) * 1) + 0 ≤ 600000; omega, by show (7072 + (513 - (n + 1)) * 11) + 0 ≤ 7302250; omega⟩) hS (fun r_370 σ_371 H locs h hH hK hS => ?_)
                                        refine W.cs (cells' := (51 + (513 - (n + 1)) * 1)) (slots' := (7072 + (513 - (n + 1)) * 11)) (by omega) (by omega) ?_
                                        refine W.lcmp hx hb d_L_law_1148 ?_
                                        refine lv_if_eq (tgt := 1202) hx hb d_L_law_1149 (by decide) (fun c_372 => ?_) (fun c_372 => ?_)
                                        · have h := h.1 c_372
                                          obtain ⟨x_373, q_374⟩ : ∃ y : Int32, y = v3 + 8 := ⟨_, rfl⟩
                                          have h := h x_373 q_374
                                          refine lv_iinc (v := x_373) (lv' := [(3, .int x_373), (0, va_rf (some b)), (1, va_rf v1), (2, va_rf v2)]) hx hb d_L_law_1202 hl (k := 3) rfl (by rw [q_374]; rfl) (by decide) (by simp [List.filter, cat_rf, cat_i, cat_l, cat_r]) (fun ls hl => ?_)
                                          refine lv_goto (tgt := 18) hx hb d_L_law_1205 (by decide) ?_
                                          refine W.widen (k := 51 + (513 - n) * 1) (n := 7072 + (513 - n) * 11) (by omega) (by omega) ?_
                                          exact ih (by omega) _ _ _ _ _ _ _ hH hK hS (lv_sub hl [1, 2, 3, 0] rfl) h
                                        · have h := h.2 c_372
                                          refine W.widen (k := 564) (n := 12715) (by omega) (by omega) ?_
                                          refine lv_iconst (v := 0) hx hb d_L_law_1152 (by decide) ?_
                                          exact h.elim
                                      · have h := h.2 c_355
                                        by_cases c_375 : ((((xs (Int32.toNatClampNeg v3))) &&& 31)) = 16
                                        · have h := h.1 c_375
                                          refine lv_tableIn (off := 1121) (tgt := 1154) hx hb d_L_law_33 (by rw [c_375]; decide) (by rw [c_375]; decide) (by rw [c_375]; decide) (by decide) ?_
                                          refine mr_aload_n hx hb d_L_law_1154 rfl (lv_at hl 1 rfl) ?_
                                          refine mr_aload_n hx hb d_L_law_1155 rfl (lv_at hl 0 rfl) ?_
                                          refine lv_iload_n hx hb d_L_law_1156 rfl (lv_at hl 3 rfl) ?_
                                          refine lv_iconst (v := 1) hx hb d_L_law_1157 (by decide) ?_
                                          refine lv_iadd hx hb d_L_law_1158 ?_
                                          obtain ⟨b_376, h⟩ := h
                                          refine va_sld hx hb hX hbl hbA hS b_376 d_L_law_1159 ?_
                                          obtain ⟨a_377, e_378, t_379, h⟩ := h
                                          refine ms_calll (va_runV (As := [.int (xs (Int32.toNatClampNeg ((v3 + 1))))]) (rest := []) ⟨hx, hb, hml, hown, hts⟩ (mc_X_till l D A σ a_377 ((xs (Int32.toNatClampNeg ((v3 + 1))))) _) ⟨(callB_of 1 hts gw_X_till rfl rfl rfl (hts _ wd_1) (hts _ wd_401) (by decide +kernel) ⟨by decide, by decide⟩), (hts _ wd_402), (hts _ wd_403)⟩ ⟨mw_blind, mg_recv hK.1 hH (ci := 0) rfl (cell_0 t_379), fun U hU hW => ⟨rfl, mw_pass hH hK hA hS hU hW, mn_warm hW hn, h⟩⟩ rfl rfl hl.1 (by rw [e_378]; rfl) (lv_room (Nat.le_of_ble_eq_true rfl)) d_L_law_1160 ⟨by show (51 + (513 - (n + 1)) * 1) + 0 ≤ 600000; omega, by show (7072 + (513 - (n + 1)) * 11) + 0 ≤ 7302250; omega⟩) hS (fun r_380 σ_381 H locs h hH hK hS => ?_)
                                          refine W.cs (cells' := (51 + (513 - (n + 1)) * 1)) (slots' := (7072 + (513 - (n + 1)) * 11)) (by omega) (by omega) ?_
                                          refine mr_aload_n hx hb d_L_law_1163 rfl (lv_at hl 2 rfl) ?_
                                          refine mr_aload_n hx hb d_L_law_1164 rfl (lv_at hl 0 rfl) ?_
                                          refine lv_iload_n hx hb d_L_law_1165 rfl (lv_at hl 3 rfl) ?_
                                          refine lv_iconst (v := 1) hx hb d_L_law_1166 (by decide) ?_
                                          refine lv_iadd hx hb d_L_law_1167 ?_
                                          refine va_sld hx hb hX hbl hbA hS b_376 d_L_law_1168 ?_
                                          obtain ⟨a_383, e_384, t_385, h⟩ := h
                                          refine ms_calll (va_runV (As := [.int (xs (Int32.toNatClampNeg ((v3 + 1))))]) (rest := [.long r_380]) ⟨hx, hb, hml, hown, hts⟩ (mc_M_till l D A σ_381 a_383 ((xs (Int32.toNatClampNeg ((v3 + 1))))) _) ⟨(callB_of 1 hts gw_M_till rfl rfl rfl (hts _ wd_4) (hts _ wd_622) (by decide +kernel) ⟨by decide, by decide⟩), (hts _ wd_623), (hts _ wd_624)⟩ ⟨mw_blind, mg_recv hK.1 hH (ci := 1) rfl (cell_1 t_385), fun U hU hW => ⟨rfl, mw_pass hH hK hA hS hU hW, mn_warm hW hn, h⟩⟩ rfl rfl hl.1 (by rw [e_384]; rfl) (lv_room (Nat.le_of_ble_eq_true rfl)) d_L_law_1169 ⟨by show (51 + (513 - (n + 1)) * 1) + 0 ≤ 600000; omega, by show (7072 + (513 - (n + 1)) * 11) + 0 ≤ 7302250; omega⟩) hS (fun r_386 σ_387 H locs h hH hK hS => ?_)
                                          refine W.cs (cells' := (51 + (513 - (n + 1)) * 1)) (slots' := (7072 + (513 - (n + 1)) * 11)) (by omega) (by omega) ?_
                                          refine W.lcmp hx hb d_L_law_1172 ?_
                                          refine lv_if_eq (tgt := 1202) hx hb d_L_law_1173 (by decide) (fun c_388 => ?_) (fun c_388 => ?_)
                                          · have h := h.1 c_388
                                            obtain ⟨x_389, q_390⟩ : ∃ y : Int32, y = v3 + 8 := ⟨_, rfl⟩
                                            have h := h x_389 q_390
                                            refine lv_iinc (v := x_389) (lv' := [(3, .int x_389), (0, va_rf (some b)), (1, va_rf v1), (2, va_rf v2)]) hx hb d_L_law_1202 hl (k := 3) rfl (by rw [q_390]; rfl) (by decide) (by simp [List.filter, cat_rf, cat_i, cat_l, cat_r]) (fun ls hl => ?_)
                                            refine lv_goto (tgt := 18) hx hb d_L_law_1205 (by decide) ?_
                                            refine W.widen (k := 51 + (513 - n) * 1) (n := 7072 + (513 - n) * 11) (by omega) (by omega) ?_
                                            exact ih (by omega) _ _ _ _ _ _ _ hH hK hS (lv_sub hl [1, 2, 3, 0] rfl) h
                                          · have h := h.2 c_388
                                            refine W.widen (k := 564) (n := 12715) (by omega) (by omega) ?_
                                            refine lv_iconst (v := 0) hx hb d_L_law_1176 (by decide) ?_
                                            exact h.elim
                                        · have h := h.2 c_375
                                          by_cases c_391 : ((((xs (Int32.toNatClampNeg v3))) &&& 31)) = 17
                                          · have h := h.1 c_391
                                            refine lv_tableIn (off := 1145) (tgt := 1178) hx hb d_L_law_33 (by rw [c_391]; decide) (by rw [c_391]; decide) (by rw [c_391]; decide) (by decide) ?_
                                            refine mr_aload_n hx hb d_L_law_1178 rfl (lv_at hl 1 rfl) ?_
                                            refine mr_aload_n hx hb d_L_law_1179 rfl (lv_at hl 0 rfl) ?_
                                            refine lv_iload_n hx hb d_L_law_1180 rfl (lv_at hl 3 rfl) ?_
                                            refine lv_iconst (v := 1) hx hb d_L_law_1181 (by decide) ?_
                                            refine lv_iadd hx hb d_L_law_1182 ?_
                                            obtain ⟨b_392, h⟩ := h
                                            refine va_sld hx hb hX hbl hbA hS b_392 d_L_law_1183 ?_
                                            obtain ⟨a_393, e_394, t_395, h⟩ := h
                                            refine ms_calll (va_runV (As := [.int (xs (Int32.toNatClampNeg ((v3 + 1))))]) (rest := []) ⟨hx, hb, hml, hown, hts⟩ (mc_X_all l D A σ a_393 ((xs (Int32.toNatClampNeg ((v3 + 1))))) _) ⟨(callB_of 1 hts gw_X_all rfl rfl rfl (hts _ wd_1) (hts _ wd_405) (by decide +kernel) ⟨by decide, by decide⟩), (hts _ wd_406), (hts _ wd_407)⟩ ⟨mw_blind, mg_recv hK.1 hH (ci := 0) rfl (cell_0 t_395), fun U hU hW => ⟨rfl, mw_pass hH hK hA hS hU hW, mn_warm hW hn, h⟩⟩ rfl rfl hl.1 (by rw [e_394]; rfl) (lv_room (Nat.le_of_ble_eq_true rfl)) d_L_law_1184 ⟨by show (51 + (513 - (n + 1)) * 1) + 0 ≤ 600000; omega, by show (7072 + (513 - (n + 1)) * 11) + 0 ≤ 7302250; omega⟩) hS (fun r_396 σ_397 H locs h hH hK hS => ?_)
                                            refine W.cs (cells' := (51 + (513 - (n + 1)) * 1)) (slots' := (7072 + (513 - (n + 1)) * 11)) (by omega) (by omega) ?_
                                            refine mr_aload_n hx hb d_L_law_1187 rfl (lv_at hl 2 rfl) ?_
                                            refine mr_aload_n hx hb d_L_law_1188 rfl (lv_at hl 0 rfl) ?_
                                            refine lv_iload_n hx hb d_L_law_1189 rfl (lv_at hl 3 rfl) ?_
                                            refine lv_iconst (v := 1) hx hb d_L_law_1190 (by decide) ?_
                                            refine lv_iadd hx hb d_L_law_1191 ?_
                                            refine va_sld hx hb hX hbl hbA hS b_392 d_L_law_1192 ?_
                                            obtain ⟨a_399, e_400, t_401, h⟩ := h
                                            refine ms_calll (va_runV (As := [.int (xs (Int32.toNatClampNeg ((v3 + 1))))]) (rest := [.long r_396]) ⟨hx, hb, hml, hown, hts⟩ (mc_M_all l D A σ_397 a_399 ((xs (Int32.toNatClampNeg ((v3 + 1))))) _) ⟨(callB_of 1 hts gw_M_all rfl rfl rfl (hts _ wd_4) (hts _ wd_626) (by decide +kernel) ⟨by decide, by decide⟩), (hts _ wd_627), (hts _ wd_628)⟩ ⟨mw_blind, mg_recv hK.1 hH (ci := 1) rfl (cell_1 t_401), fun U hU hW => ⟨rfl, mw_pass hH hK hA hS hU hW, mn_warm hW hn, h⟩⟩ rfl rfl hl.1 (by rw [e_400]; rfl) (lv_room (Nat.le_of_ble_eq_true rfl)) d_L_law_1193 ⟨by show (51 + (513 - (n + 1)) * 1) + 0 ≤ 600000; omega, by show (7072 + (513 - (n + 1)) * 11) + 0 ≤ 7302250; omega⟩) hS (fun r_402 σ_403 H locs h hH hK hS => ?_)
                                            refine W.cs (cells' := (51 + (513 - (n + 1)) * 1)) (slots' := (7072 + (513 - (n + 1)) * 11)) (by omega) (by omega) ?_
                                            refine W.lcmp hx hb d_L_law_1196 ?_
                                            refine lv_if_eq (tgt := 1202) hx hb d_L_law_1197 (by decide) (fun c_404 => ?_) (fun c_404 => ?_)
                                            · have h := h.1 c_404
                                              obtain ⟨x_405, q_406⟩ : ∃ y : Int32, y = v3 + 8 := ⟨_, rfl⟩
                                              have h := h x_405 q_406
                                              refine lv_iinc (v := x_405) (lv' := [(3, .int x_405), (0, va_rf (some b)), (1, va_rf v1), (2, va_rf v2)]) hx hb d_L_law_1202 hl (k := 3) rfl (by rw [q_406]; rfl) (by decide) (by simp [List.filter, cat_rf, cat_i, cat_l, cat_r]) (fun ls hl => ?_)
                                              refine lv_goto (tgt := 18) hx hb d_L_law_1205 (by decide) ?_
                                              refine W.widen (k := 51 + (513 - n) * 1) (n := 7072 + (513 - n) * 11) (by omega) (by omega) ?_
                                              exact ih (by omega) _ _ _ _ _ _ _ hH hK hS (lv_sub hl [1, 2, 3, 0] rfl) h
                                            · have h := h.2 c_404
                                              refine W.widen (k := 564) (n := 12715) (by omega) (by omega) ?_
                                              refine lv_iconst (v := 0) hx hb d_L_law_1200 (by decide) ?_
                                              exact h.elim
                                          · have h := h.2 c_391
                                            have c_17n := lv_neT (k := 0) (a := 0) c_17 rfl
                                            have c_45n := lv_neT (k := 1) (a := 1) c_45 rfl
                                            have c_71n := lv_neT (k := 2) (a := 2) c_71 rfl
                                            have c_89n := lv_neT (k := 3) (a := 3) c_89 rfl
                                            have c_115n := lv_neT (k := 4) (a := 4) c_115 rfl
                                            have c_131n := lv_neT (k := 5) (a := 5) c_131 rfl
                                            have c_147n := lv_neT (k := 6) (a := 6) c_147 rfl
                                            have c_169n := lv_neT (k := 7) (a := 7) c_169 rfl
                                            have c_187n := lv_neT (k := 8) (a := 8) c_187 rfl
                                            have c_205n := lv_neT (k := 9) (a := 9) c_205 rfl
                                            have c_257n := lv_neT (k := 10) (a := 10) c_257 rfl
                                            have c_277n := lv_neT (k := 11) (a := 11) c_277 rfl
                                            have c_299n := lv_neT (k := 12) (a := 12) c_299 rfl
                                            have c_321n := lv_neT (k := 13) (a := 13) c_321 rfl
                                            have c_337n := lv_neT (k := 14) (a := 14) c_337 rfl
                                            have c_355n := lv_neT (k := 15) (a := 15) c_355 rfl
                                            have c_375n := lv_neT (k := 16) (a := 16) c_375 rfl
                                            have c_391n := lv_neT (k := 17) (a := 17) c_391 rfl
                                            refine lv_tableOut (tgt := 1202) hx hb d_L_law_33 (by omega) (by decide) ?_
                                            obtain ⟨x_407, q_408⟩ : ∃ y : Int32, y = v3 + 8 := ⟨_, rfl⟩
                                            have h := h x_407 q_408
                                            refine lv_iinc (v := x_407) (lv' := [(3, .int x_407), (0, va_rf (some b)), (1, va_rf v1), (2, va_rf v2)]) hx hb d_L_law_1202 hl (k := 3) rfl (by rw [q_408]; rfl) (by decide) (by simp [List.filter, cat_rf, cat_i, cat_l, cat_r]) (fun ls hl => ?_)
                                            refine lv_goto (tgt := 18) hx hb d_L_law_1205 (by decide) ?_
                                            refine W.widen (k := 51 + (513 - n) * 1) (n := 7072 + (513 - n) * 11) (by omega) (by omega) ?_
                                            exact ih (by omega) _ _ _ _ _ _ _ hH hK hS (lv_sub hl [1, 2, 3, 0] rfl) h
  have hS : va_S A s.heap s.heap [] := va_S.rf
  have hl := lv_entry ([.ref b]) (n := 4) (Nat.le_of_ble_eq_true rfl)
  rw [lg_entry_eq]
  generalize (lg_sl ([.ref b]) ++ List.replicate (4 - (lg_sl ([.ref b])).length) Slot.unset).toArray = ls at hl ⊢
  have hl : lv_has ls 4 [(0, va_rf (some b))] := hl
  unfold wp_L at h
  refine ms_new (σ := σ) (ci := 0) (fs := df_0) (C := R_X) (T := T_X) (N := 10) hx hb hts in_0 ty_X ty_X_ok hown (hts _ wd_9) (hts _ wd_10) (hts _ wd_1) hK hH hS hA rfl dfl_0 (by decide) (by decide) d_L_law_0 rfl (new_0 σ) (fun q_1 H f_4 hH hK hS => ?_)
  obtain ⟨σ_2, z_3⟩ : ∃ y : ST, y = st_new σ q_1 0 := ⟨_, rfl⟩
  rw [← z_3] at hH hK
  have h := h q_1 f_4 σ_2 z_3
  have t_5 : st_tg σ_2 q_1 = some 0 := by rw [z_3, g_tg_new, if_pos rfl]
  refine lv_dup hx hb d_L_law_3 (cat_rf _) ?_
  refine ms_callv (va_runI (As := []) (rest := [va_rf (some q_1)]) ⟨hx, hb, hml, hown, hts⟩ (mc_X_init l D A σ_2 q_1 _) ⟨(callB_of 0 hts gw_X_init rfl rfl rfl (hts _ wd_1) (hts _ wd_11) (by decide +kernel) ⟨by decide, by decide⟩), rfl, (hts _ wd_12)⟩ ⟨mw_blind, fun U hU hW => ⟨rfl, mw_pass hH hK hA hS hU hW, mn_warm hW hn, h⟩⟩ rfl rfl hl.1 rfl (lv_room (Nat.le_of_ble_eq_true rfl)) d_L_law_4 ⟨by decide, by decide⟩) hS (fun σ_7 H locs h hH hK hS => ?_)
  refine W.cs (cells' := 22) (slots' := 621) rfl rfl ?_
  refine mr_astore_n (lv' := [(1, va_rf (some q_1)), (0, va_rf (some b))]) hx hb d_L_law_7 rfl hl (by decide) rfl (fun ls hl => ?_)
  refine ms_new (σ := σ_7) (ci := 1) (fs := df_1) (C := R_M) (T := T_M) (N := 32) hx hb hts in_1 ty_M ty_M_ok hown (hts _ wd_409) (hts _ wd_410) (hts _ wd_4) hK hH hS hA rfl dfl_1 (by decide) (by decide) d_L_law_8 rfl (new_1 σ_7) (fun q_8 H f_11 hH hK hS => ?_)
  obtain ⟨σ_9, z_10⟩ : ∃ y : ST, y = st_new σ_7 q_8 1 := ⟨_, rfl⟩
  rw [← z_10] at hH hK
  have h := h q_8 f_11 σ_9 z_10
  have t_12 : st_tg σ_9 q_8 = some 1 := by rw [z_10, g_tg_new, if_pos rfl]
  refine lv_dup hx hb d_L_law_11 (cat_rf _) ?_
  refine ms_callv (va_runI (As := []) (rest := [va_rf (some q_8)]) ⟨hx, hb, hml, hown, hts⟩ (mc_M_init l D A σ_9 q_8 _) ⟨(callB_of 0 hts gw_M_init rfl rfl rfl (hts _ wd_4) (hts _ wd_411) (by decide +kernel) ⟨by decide, by decide⟩), rfl, (hts _ wd_412)⟩ ⟨mw_blind, fun U hU hW => ⟨rfl, mw_pass hH hK hA hS hU hW, mn_warm hW hn, h⟩⟩ rfl rfl hl.1 rfl (lv_room (Nat.le_of_ble_eq_true rfl)) d_L_law_12 ⟨by decide, by decide⟩) hS (fun σ_14 H locs h hH hK hS => ?_)
  refine W.cs (cells' := 51) (slots' := 7072) rfl rfl ?_
  refine mr_astore_n (lv' := [(2, va_rf (some q_8)), (1, va_rf (some q_1)), (0, va_rf (some b))]) hx hb d_L_law_15 rfl hl (by decide) rfl (fun ls hl => ?_)
  refine lv_iconst (v := 0) hx hb d_L_law_16 (by decide) ?_
  refine lv_istore_n (lv' := [(3, .int 0), (2, va_rf (some q_8)), (1, va_rf (some q_1)), (0, va_rf (some b))]) hx hb d_L_law_17 rfl hl (by decide) rfl (fun ls hl => ?_)
  obtain ⟨n, hN, h⟩ := h
  refine W.widen (k := 51 + (513 - n) * 1) (n := 7072 + (513 - n) * 11) (by omega) (by omega) ?_
  exact b_18 n hN _ _ _ _ _ _ _ hH hK hS (lv_sub hl [3, 2, 1, 0] rfl) h
