theorem gl_put {X : gx_M} {l : Launch} {D : va_G} {cI cB cC cZ : ClassId} {ad ad' : Nat → Nat} {A : Nat → Prop} {b L : Nat} {xs : Nat → Int32} {k n : Nat} {Q : State → Prop} {S T : gw_S} (F : gl_F X l D cI cB cC cZ ad ad' A b L xs) {i : Int32} (h : eY S T) (h1 : vp_in (i + (1 : Int32)) L) (h2 : vp_in (i + (2 : Int32)) L) (h3 : vp_in (i + (3 : Int32)) L) (hkc : k ≤ room_1.cells ∧ n ≤ room_1.slots) (kk : ∀ S' T' : gw_S, eY S' T' → gl_V X D cI cB cC cZ ad ad' A k n Q S' T' 371 [(3, .int i), (0, .ref b), (1, .ref (ad 0)), (2, .ref (ad' 0))] []) : gl_V X D cI cB cC cZ ad ad' A k n Q S T 84 [(3, .int i), (0, .ref b), (1, .ref (ad 0)), (2, .ref (ad' 0))] [] := by
  refine gl_aload_n F 2 d_law_84 rfl rfl ?_
  refine gl_aload_n F 1 d_law_85 rfl rfl ?_
  refine gl_iload_n F 0 d_law_86 rfl rfl ?_
  refine gl_iconst (v := (1 : Int32)) F d_law_87 (by decide) ?_
  refine gl_iadd F d_law_88 ?_
  refine gl_sld F h1 d_law_89 ?_
  refine gl_aload_n F 1 d_law_90 rfl rfl ?_
  refine gl_iload_n F 0 d_law_91 rfl rfl ?_
  refine gl_iconst (v := (2 : Int32)) F d_law_92 (by decide) ?_
  refine gl_iadd F d_law_93 ?_
  refine gl_sld F h2 d_law_94 ?_
  refine gl_aload_n F 1 d_law_95 rfl rfl ?_
  refine gl_iload_n F 0 d_law_96 rfl rfl ?_
  refine gl_iconst (v := (3 : Int32)) F d_law_97 (by decide) ?_
  refine gl_iadd F d_law_98 ?_
  refine gl_sld F h3 d_law_99 ?_
  refine gl_cS F (As := [.int (xs (i + (1 : Int32)).toNatClampNeg), .int (xs (i + (2 : Int32)).toNatClampNeg), .int (xs (i + (3 : Int32)).toNatClampNeg)]) (c_SM_put F.2.2.2.2.2.2.2.2.1.1 S (xs (i + (1 : Int32)).toNatClampNeg) (xs (i + (2 : Int32)).toNatClampNeg) (xs (i + (3 : Int32)).toNatClampNeg)) cw_SM_put cv_SM_put tw_168 (by decide) rfl rfl rfl (Nat.le_of_ble_eq_true rfl) hkc d_law_100 ?_
  refine gl_aload_n F 3 d_law_103 rfl rfl ?_
  refine gl_aload_n F 1 d_law_104 rfl rfl ?_
  refine gl_iload_n F 0 d_law_105 rfl rfl ?_
  refine gl_iconst (v := (1 : Int32)) F d_law_106 (by decide) ?_
  refine gl_iadd F d_law_107 ?_
  refine gl_sld F h1 d_law_108 ?_
  refine gl_aload_n F 1 d_law_109 rfl rfl ?_
  refine gl_iload_n F 0 d_law_110 rfl rfl ?_
  refine gl_iconst (v := (2 : Int32)) F d_law_111 (by decide) ?_
  refine gl_iadd F d_law_112 ?_
  refine gl_sld F h2 d_law_113 ?_
  refine gl_aload_n F 1 d_law_114 rfl rfl ?_
  refine gl_iload_n F 0 d_law_115 rfl rfl ?_
  refine gl_iconst (v := (3 : Int32)) F d_law_116 (by decide) ?_
  refine gl_iadd F d_law_117 ?_
  refine gl_sld F h3 d_law_118 ?_
  refine gl_cM F (As := [.int (xs (i + (1 : Int32)).toNatClampNeg), .int (xs (i + (2 : Int32)).toNatClampNeg), .int (xs (i + (3 : Int32)).toNatClampNeg)]) (c_Model_put F.2.2.2.2.2.2.2.2.1.2 T (xs (i + (1 : Int32)).toNatClampNeg) (xs (i + (2 : Int32)).toNatClampNeg) (xs (i + (3 : Int32)).toNatClampNeg)) cw_Model_put cv_Model_put tw_508 (by decide) rfl rfl rfl (Nat.le_of_ble_eq_true rfl) hkc d_law_119 ?_
  exact gl_eqT (tgt := 371) F d_law_122 (by decide) (y_put h).1 (kk _ _ (y_put h).2)
theorem gl_byteAt {X : gx_M} {l : Launch} {D : va_G} {cI cB cC cZ : ClassId} {ad ad' : Nat → Nat} {A : Nat → Prop} {b L : Nat} {xs : Nat → Int32} {k n : Nat} {Q : State → Prop} {S T : gw_S} (F : gl_F X l D cI cB cC cZ ad ad' A b L xs) {i : Int32} (h : eY S T) (h1 : vp_in (i + (1 : Int32)) L) (h2 : vp_in (i + (2 : Int32)) L) (h3 : vp_in (i + (3 : Int32)) L) (hkc : k ≤ room_1.cells ∧ n ≤ room_1.slots) (kk : ∀ S' T' : gw_S, eY S' T' → gl_V X D cI cB cC cZ ad ad' A k n Q S' T' 371 [(3, .int i), (0, .ref b), (1, .ref (ad 0)), (2, .ref (ad' 0))] []) : gl_V X D cI cB cC cZ ad ad' A k n Q S T 127 [(3, .int i), (0, .ref b), (1, .ref (ad 0)), (2, .ref (ad' 0))] [] := by
  refine gl_aload_n F 2 d_law_127 rfl rfl ?_
  refine gl_aload_n F 1 d_law_128 rfl rfl ?_
  refine gl_iload_n F 0 d_law_129 rfl rfl ?_
  refine gl_iconst (v := (1 : Int32)) F d_law_130 (by decide) ?_
  refine gl_iadd F d_law_131 ?_
  refine gl_sld F h1 d_law_132 ?_
  refine gl_aload_n F 1 d_law_133 rfl rfl ?_
  refine gl_iload_n F 0 d_law_134 rfl rfl ?_
  refine gl_iconst (v := (2 : Int32)) F d_law_135 (by decide) ?_
  refine gl_iadd F d_law_136 ?_
  refine gl_sld F h2 d_law_137 ?_
  refine gl_cS F (As := [.int (xs (i + (1 : Int32)).toNatClampNeg), .int (xs (i + (2 : Int32)).toNatClampNeg)]) (c_SM_byteAt F.2.2.2.2.2.2.2.2.1.1 S (xs (i + (1 : Int32)).toNatClampNeg) (xs (i + (2 : Int32)).toNatClampNeg)) cw_SM_byteAt cv_SM_byteAt tw_180 (by decide) rfl rfl rfl (Nat.le_of_ble_eq_true rfl) hkc d_law_138 ?_
  refine gl_aload_n F 3 d_law_141 rfl rfl ?_
  refine gl_aload_n F 1 d_law_142 rfl rfl ?_
  refine gl_iload_n F 0 d_law_143 rfl rfl ?_
  refine gl_iconst (v := (1 : Int32)) F d_law_144 (by decide) ?_
  refine gl_iadd F d_law_145 ?_
  refine gl_sld F h1 d_law_146 ?_
  refine gl_aload_n F 1 d_law_147 rfl rfl ?_
  refine gl_iload_n F 0 d_law_148 rfl rfl ?_
  refine gl_iconst (v := (2 : Int32)) F d_law_149 (by decide) ?_
  refine gl_iadd F d_law_150 ?_
  refine gl_sld F h2 d_law_151 ?_
  refine gl_cM F (As := [.int (xs (i + (1 : Int32)).toNatClampNeg), .int (xs (i + (2 : Int32)).toNatClampNeg)]) (c_Model_byteAt F.2.2.2.2.2.2.2.2.1.2 T (xs (i + (1 : Int32)).toNatClampNeg) (xs (i + (2 : Int32)).toNatClampNeg)) cw_Model_byteAt cv_Model_byteAt tw_515 (by decide) rfl rfl rfl (Nat.le_of_ble_eq_true rfl) hkc d_law_152 ?_
  exact gl_eqT (tgt := 371) F d_law_155 (by decide) (y_byteAt h).1 (kk _ _ (y_byteAt h).2)
theorem gl_set {X : gx_M} {l : Launch} {D : va_G} {cI cB cC cZ : ClassId} {ad ad' : Nat → Nat} {A : Nat → Prop} {b L : Nat} {xs : Nat → Int32} {k n : Nat} {Q : State → Prop} {S T : gw_S} (F : gl_F X l D cI cB cC cZ ad ad' A b L xs) {i : Int32} (h : eY S T) (h1 : vp_in (i + (1 : Int32)) L) (h2 : vp_in (i + (2 : Int32)) L) (h3 : vp_in (i + (3 : Int32)) L) (hkc : k ≤ room_1.cells ∧ n ≤ room_1.slots) (kk : ∀ S' T' : gw_S, eY S' T' → gl_V X D cI cB cC cZ ad ad' A k n Q S' T' 371 [(3, .int i), (0, .ref b), (1, .ref (ad 0)), (2, .ref (ad' 0))] []) : gl_V X D cI cB cC cZ ad ad' A k n Q S T 160 [(3, .int i), (0, .ref b), (1, .ref (ad 0)), (2, .ref (ad' 0))] [] := by
  refine gl_aload_n F 2 d_law_160 rfl rfl ?_
  refine gl_aload_n F 1 d_law_161 rfl rfl ?_
  refine gl_iload_n F 0 d_law_162 rfl rfl ?_
  refine gl_iconst (v := (1 : Int32)) F d_law_163 (by decide) ?_
  refine gl_iadd F d_law_164 ?_
  refine gl_sld F h1 d_law_165 ?_
  refine gl_aload_n F 1 d_law_166 rfl rfl ?_
  refine gl_iload_n F 0 d_law_167 rfl rfl ?_
  refine gl_iconst (v := (2 : Int32)) F d_law_168 (by decide) ?_
  refine gl_iadd F d_law_169 ?_
  refine gl_sld F h2 d_law_170 ?_
  refine gl_cS F (As := [.int (xs (i + (1 : Int32)).toNatClampNeg), .int (xs (i + (2 : Int32)).toNatClampNeg)]) (c_SM_set F.2.2.2.2.2.2.2.2.1.1 S (xs (i + (1 : Int32)).toNatClampNeg) (xs (i + (2 : Int32)).toNatClampNeg)) cw_SM_set cv_SM_set tw_188 (by decide) rfl rfl rfl (Nat.le_of_ble_eq_true rfl) hkc d_law_171 ?_
  refine gl_aload_n F 3 d_law_174 rfl rfl ?_
  refine gl_aload_n F 1 d_law_175 rfl rfl ?_
  refine gl_iload_n F 0 d_law_176 rfl rfl ?_
  refine gl_iconst (v := (1 : Int32)) F d_law_177 (by decide) ?_
  refine gl_iadd F d_law_178 ?_
  refine gl_sld F h1 d_law_179 ?_
  refine gl_aload_n F 1 d_law_180 rfl rfl ?_
  refine gl_iload_n F 0 d_law_181 rfl rfl ?_
  refine gl_iconst (v := (2 : Int32)) F d_law_182 (by decide) ?_
  refine gl_iadd F d_law_183 ?_
  refine gl_sld F h2 d_law_184 ?_
  refine gl_cM F (As := [.int (xs (i + (1 : Int32)).toNatClampNeg), .int (xs (i + (2 : Int32)).toNatClampNeg)]) (c_Model_set F.2.2.2.2.2.2.2.2.1.2 T (xs (i + (1 : Int32)).toNatClampNeg) (xs (i + (2 : Int32)).toNatClampNeg)) cw_Model_set cv_Model_set tw_519 (by decide) rfl rfl rfl (Nat.le_of_ble_eq_true rfl) hkc d_law_185 ?_
  exact gl_eqT (tgt := 371) F d_law_188 (by decide) (y_set h).1 (kk _ _ (y_set h).2)
theorem gl_get {X : gx_M} {l : Launch} {D : va_G} {cI cB cC cZ : ClassId} {ad ad' : Nat → Nat} {A : Nat → Prop} {b L : Nat} {xs : Nat → Int32} {k n : Nat} {Q : State → Prop} {S T : gw_S} (F : gl_F X l D cI cB cC cZ ad ad' A b L xs) {i : Int32} (h : eY S T) (h1 : vp_in (i + (1 : Int32)) L) (h2 : vp_in (i + (2 : Int32)) L) (h3 : vp_in (i + (3 : Int32)) L) (hkc : k ≤ room_1.cells ∧ n ≤ room_1.slots) (kk : ∀ S' T' : gw_S, eY S' T' → gl_V X D cI cB cC cZ ad ad' A k n Q S' T' 371 [(3, .int i), (0, .ref b), (1, .ref (ad 0)), (2, .ref (ad' 0))] []) : gl_V X D cI cB cC cZ ad ad' A k n Q S T 193 [(3, .int i), (0, .ref b), (1, .ref (ad 0)), (2, .ref (ad' 0))] [] := by
  refine gl_aload_n F 2 d_law_193 rfl rfl ?_
  refine gl_aload_n F 1 d_law_194 rfl rfl ?_
  refine gl_iload_n F 0 d_law_195 rfl rfl ?_
  refine gl_iconst (v := (1 : Int32)) F d_law_196 (by decide) ?_
  refine gl_iadd F d_law_197 ?_
  refine gl_sld F h1 d_law_198 ?_
  refine gl_cS F (As := [.int (xs (i + (1 : Int32)).toNatClampNeg)]) (c_SM_get F.2.2.2.2.2.2.2.2.1.1 S (xs (i + (1 : Int32)).toNatClampNeg)) cw_SM_get cv_SM_get tw_195 (by decide) rfl rfl rfl (Nat.le_of_ble_eq_true rfl) hkc d_law_199 ?_
  refine gl_aload_n F 3 d_law_202 rfl rfl ?_
  refine gl_aload_n F 1 d_law_203 rfl rfl ?_
  refine gl_iload_n F 0 d_law_204 rfl rfl ?_
  refine gl_iconst (v := (1 : Int32)) F d_law_205 (by decide) ?_
  refine gl_iadd F d_law_206 ?_
  refine gl_sld F h1 d_law_207 ?_
  refine gl_cM F (As := [.int (xs (i + (1 : Int32)).toNatClampNeg)]) (c_Model_get F.2.2.2.2.2.2.2.2.1.2 T (xs (i + (1 : Int32)).toNatClampNeg)) cw_Model_get cv_Model_get tw_526 (by decide) rfl rfl rfl (Nat.le_of_ble_eq_true rfl) hkc d_law_208 ?_
  exact gl_eqT (tgt := 371) F d_law_211 (by decide) (y_get h).1 (kk _ _ (y_get h).2)
theorem gl_ask {X : gx_M} {l : Launch} {D : va_G} {cI cB cC cZ : ClassId} {ad ad' : Nat → Nat} {A : Nat → Prop} {b L : Nat} {xs : Nat → Int32} {k n : Nat} {Q : State → Prop} {S T : gw_S} (F : gl_F X l D cI cB cC cZ ad ad' A b L xs) {i : Int32} (h : eY S T) (h1 : vp_in (i + (1 : Int32)) L) (h2 : vp_in (i + (2 : Int32)) L) (h3 : vp_in (i + (3 : Int32)) L) (hkc : k ≤ room_1.cells ∧ n ≤ room_1.slots) (kk : ∀ S' T' : gw_S, eY S' T' → gl_V X D cI cB cC cZ ad ad' A k n Q S' T' 371 [(3, .int i), (0, .ref b), (1, .ref (ad 0)), (2, .ref (ad' 0))] []) : gl_V X D cI cB cC cZ ad ad' A k n Q S T 216 [(3, .int i), (0, .ref b), (1, .ref (ad 0)), (2, .ref (ad' 0))] [] := by
  refine gl_aload_n F 2 d_law_216 rfl rfl ?_
  refine gl_aload_n F 1 d_law_217 rfl rfl ?_
  refine gl_iload_n F 0 d_law_218 rfl rfl ?_
  refine gl_iconst (v := (1 : Int32)) F d_law_219 (by decide) ?_
  refine gl_iadd F d_law_220 ?_
  refine gl_sld F h1 d_law_221 ?_
  refine gl_aload_n F 1 d_law_222 rfl rfl ?_
  refine gl_iload_n F 0 d_law_223 rfl rfl ?_
  refine gl_iconst (v := (2 : Int32)) F d_law_224 (by decide) ?_
  refine gl_iadd F d_law_225 ?_
  refine gl_sld F h2 d_law_226 ?_
  refine gl_cS F (As := [.int (xs (i + (1 : Int32)).toNatClampNeg), .int (xs (i + (2 : Int32)).toNatClampNeg)]) (c_SM_ask F.2.2.2.2.2.2.2.2.1.1 S (xs (i + (1 : Int32)).toNatClampNeg) (xs (i + (2 : Int32)).toNatClampNeg)) cw_SM_ask cv_SM_ask tw_199 (by decide) rfl rfl rfl (Nat.le_of_ble_eq_true rfl) hkc d_law_227 ?_
  refine gl_aload_n F 3 d_law_230 rfl rfl ?_
  refine gl_aload_n F 1 d_law_231 rfl rfl ?_
  refine gl_iload_n F 0 d_law_232 rfl rfl ?_
  refine gl_iconst (v := (1 : Int32)) F d_law_233 (by decide) ?_
  refine gl_iadd F d_law_234 ?_
  refine gl_sld F h1 d_law_235 ?_
  refine gl_aload_n F 1 d_law_236 rfl rfl ?_
  refine gl_iload_n F 0 d_law_237 rfl rfl ?_
  refine gl_iconst (v := (2 : Int32)) F d_law_238 (by decide) ?_
  refine gl_iadd F d_law_239 ?_
  refine gl_sld F h2 d_law_240 ?_
  refine gl_cM F (As := [.int (xs (i + (1 : Int32)).toNatClampNeg), .int (xs (i + (2 : Int32)).toNatClampNeg)]) (c_Model_ask F.2.2.2.2.2.2.2.2.1.2 T (xs (i + (1 : Int32)).toNatClampNeg) (xs (i + (2 : Int32)).toNatClampNeg)) cw_Model_ask cv_Model_ask tw_530 (by decide) rfl rfl rfl (Nat.le_of_ble_eq_true rfl) hkc d_law_241 ?_
  exact gl_eqT (tgt := 371) F d_law_244 (by decide) (y_ask h).1 (kk _ _ (y_ask h).2)
theorem gl_frame {X : gx_M} {l : Launch} {D : va_G} {cI cB cC cZ : ClassId} {ad ad' : Nat → Nat} {A : Nat → Prop} {b L : Nat} {xs : Nat → Int32} {k n : Nat} {Q : State → Prop} {S T : gw_S} (F : gl_F X l D cI cB cC cZ ad ad' A b L xs) {i : Int32} (h : eY S T) (h1 : vp_in (i + (1 : Int32)) L) (h2 : vp_in (i + (2 : Int32)) L) (h3 : vp_in (i + (3 : Int32)) L) (hkc : k ≤ room_1.cells ∧ n ≤ room_1.slots) (kk : ∀ S' T' : gw_S, eY S' T' → gl_V X D cI cB cC cZ ad ad' A k n Q S' T' 371 [(3, .int i), (0, .ref b), (1, .ref (ad 0)), (2, .ref (ad' 0))] []) : gl_V X D cI cB cC cZ ad ad' A k n Q S T 249 [(3, .int i), (0, .ref b), (1, .ref (ad 0)), (2, .ref (ad' 0))] [] := by
  refine gl_aload_n F 2 d_law_249 rfl rfl ?_
  refine gl_aload_n F 1 d_law_250 rfl rfl ?_
  refine gl_iload_n F 0 d_law_251 rfl rfl ?_
  refine gl_iconst (v := (1 : Int32)) F d_law_252 (by decide) ?_
  refine gl_iadd F d_law_253 ?_
  refine gl_sld F h1 d_law_254 ?_
  refine gl_cS F (As := [.int (xs (i + (1 : Int32)).toNatClampNeg)]) (c_SM_frame F.2.2.2.2.2.2.2.2.1.1 S (xs (i + (1 : Int32)).toNatClampNeg) h.2.2) cw_SM_frame cv_SM_frame tw_203 (by decide) rfl rfl rfl (Nat.le_of_ble_eq_true rfl) hkc d_law_255 ?_
  refine gl_aload_n F 3 d_law_258 rfl rfl ?_
  refine gl_aload_n F 1 d_law_259 rfl rfl ?_
  refine gl_iload_n F 0 d_law_260 rfl rfl ?_
  refine gl_iconst (v := (1 : Int32)) F d_law_261 (by decide) ?_
  refine gl_iadd F d_law_262 ?_
  refine gl_sld F h1 d_law_263 ?_
  refine gl_cM F (As := [.int (xs (i + (1 : Int32)).toNatClampNeg)]) (c_Model_frame F.2.2.2.2.2.2.2.2.1.2 T (xs (i + (1 : Int32)).toNatClampNeg) h.2.1) cw_Model_frame cv_Model_frame tw_534 (by decide) rfl rfl rfl (Nat.le_of_ble_eq_true rfl) hkc d_law_264 ?_
  exact gl_eqT (tgt := 371) F d_law_267 (by decide) (y_frame h).1 (kk _ _ (y_frame h).2)
theorem gl_channel {X : gx_M} {l : Launch} {D : va_G} {cI cB cC cZ : ClassId} {ad ad' : Nat → Nat} {A : Nat → Prop} {b L : Nat} {xs : Nat → Int32} {k n : Nat} {Q : State → Prop} {S T : gw_S} (F : gl_F X l D cI cB cC cZ ad ad' A b L xs) {i : Int32} (h : eY S T) (h1 : vp_in (i + (1 : Int32)) L) (h2 : vp_in (i + (2 : Int32)) L) (h3 : vp_in (i + (3 : Int32)) L) (hkc : k ≤ room_1.cells ∧ n ≤ room_1.slots) (kk : ∀ S' T' : gw_S, eY S' T' → gl_V X D cI cB cC cZ ad ad' A k n Q S' T' 371 [(3, .int i), (0, .ref b), (1, .ref (ad 0)), (2, .ref (ad' 0))] []) : gl_V X D cI cB cC cZ ad ad' A k n Q S T 272 [(3, .int i), (0, .ref b), (1, .ref (ad 0)), (2, .ref (ad' 0))] [] := by
  refine gl_aload_n F 2 d_law_272 rfl rfl ?_
  refine gl_aload_n F 1 d_law_273 rfl rfl ?_
  refine gl_iload_n F 0 d_law_274 rfl rfl ?_
  refine gl_iconst (v := (1 : Int32)) F d_law_275 (by decide) ?_
  refine gl_iadd F d_law_276 ?_
  refine gl_sld F h1 d_law_277 ?_
  refine gl_aload_n F 1 d_law_278 rfl rfl ?_
  refine gl_iload_n F 0 d_law_279 rfl rfl ?_
  refine gl_iconst (v := (2 : Int32)) F d_law_280 (by decide) ?_
  refine gl_iadd F d_law_281 ?_
  refine gl_sld F h2 d_law_282 ?_
  refine gl_cS F (As := [.int (xs (i + (1 : Int32)).toNatClampNeg), .int (xs (i + (2 : Int32)).toNatClampNeg)]) (c_SM_channel F.2.2.2.2.2.2.2.2.1.1 S (xs (i + (1 : Int32)).toNatClampNeg) (xs (i + (2 : Int32)).toNatClampNeg)) cw_SM_channel cv_SM_channel tw_385 (by decide) rfl rfl rfl (Nat.le_of_ble_eq_true rfl) hkc d_law_283 ?_
  refine gl_aload_n F 3 d_law_286 rfl rfl ?_
  refine gl_aload_n F 1 d_law_287 rfl rfl ?_
  refine gl_iload_n F 0 d_law_288 rfl rfl ?_
  refine gl_iconst (v := (1 : Int32)) F d_law_289 (by decide) ?_
  refine gl_iadd F d_law_290 ?_
  refine gl_sld F h1 d_law_291 ?_
  refine gl_aload_n F 1 d_law_292 rfl rfl ?_
  refine gl_iload_n F 0 d_law_293 rfl rfl ?_
  refine gl_iconst (v := (2 : Int32)) F d_law_294 (by decide) ?_
  refine gl_iadd F d_law_295 ?_
  refine gl_sld F h2 d_law_296 ?_
  refine gl_cM F (As := [.int (xs (i + (1 : Int32)).toNatClampNeg), .int (xs (i + (2 : Int32)).toNatClampNeg)]) (c_Model_channel F.2.2.2.2.2.2.2.2.1.2 T (xs (i + (1 : Int32)).toNatClampNeg) (xs (i + (2 : Int32)).toNatClampNeg)) cw_Model_channel cv_Model_channel tw_663 (by decide) rfl rfl rfl (Nat.le_of_ble_eq_true rfl) hkc d_law_297 ?_
  exact gl_eqT (tgt := 371) F d_law_300 (by decide) (y_channel h).1 (kk _ _ (y_channel h).2)
theorem gl_pixel {X : gx_M} {l : Launch} {D : va_G} {cI cB cC cZ : ClassId} {ad ad' : Nat → Nat} {A : Nat → Prop} {b L : Nat} {xs : Nat → Int32} {k n : Nat} {Q : State → Prop} {S T : gw_S} (F : gl_F X l D cI cB cC cZ ad ad' A b L xs) {i : Int32} (h : eY S T) (h1 : vp_in (i + (1 : Int32)) L) (h2 : vp_in (i + (2 : Int32)) L) (h3 : vp_in (i + (3 : Int32)) L) (hkc : k ≤ room_1.cells ∧ n ≤ room_1.slots) (kk : ∀ S' T' : gw_S, eY S' T' → gl_V X D cI cB cC cZ ad ad' A k n Q S' T' 371 [(3, .int i), (0, .ref b), (1, .ref (ad 0)), (2, .ref (ad' 0))] []) : gl_V X D cI cB cC cZ ad ad' A k n Q S T 305 [(3, .int i), (0, .ref b), (1, .ref (ad 0)), (2, .ref (ad' 0))] [] := by
  refine gl_aload_n F 2 d_law_305 rfl rfl ?_
  refine gl_aload_n F 1 d_law_306 rfl rfl ?_
  refine gl_iload_n F 0 d_law_307 rfl rfl ?_
  refine gl_iconst (v := (1 : Int32)) F d_law_308 (by decide) ?_
  refine gl_iadd F d_law_309 ?_
  refine gl_sld F h1 d_law_310 ?_
  refine gl_aload_n F 1 d_law_311 rfl rfl ?_
  refine gl_iload_n F 0 d_law_312 rfl rfl ?_
  refine gl_iconst (v := (2 : Int32)) F d_law_313 (by decide) ?_
  refine gl_iadd F d_law_314 ?_
  refine gl_sld F h2 d_law_315 ?_
  refine gl_aload_n F 1 d_law_316 rfl rfl ?_
  refine gl_iload_n F 0 d_law_317 rfl rfl ?_
  refine gl_iconst (v := (3 : Int32)) F d_law_318 (by decide) ?_
  refine gl_iadd F d_law_319 ?_
  refine gl_sld F h3 d_law_320 ?_
  refine gl_cS F (As := [.int (xs (i + (1 : Int32)).toNatClampNeg), .int (xs (i + (2 : Int32)).toNatClampNeg), .int (xs (i + (3 : Int32)).toNatClampNeg)]) (c_SM_pixel F.2.2.2.2.2.2.2.2.1.1 S (xs (i + (1 : Int32)).toNatClampNeg) (xs (i + (2 : Int32)).toNatClampNeg) (xs (i + (3 : Int32)).toNatClampNeg)) cw_SM_pixel cv_SM_pixel tw_389 (by decide) rfl rfl rfl (Nat.le_of_ble_eq_true rfl) hkc d_law_321 ?_
  refine gl_aload_n F 3 d_law_324 rfl rfl ?_
  refine gl_aload_n F 1 d_law_325 rfl rfl ?_
  refine gl_iload_n F 0 d_law_326 rfl rfl ?_
  refine gl_iconst (v := (1 : Int32)) F d_law_327 (by decide) ?_
  refine gl_iadd F d_law_328 ?_
  refine gl_sld F h1 d_law_329 ?_
  refine gl_aload_n F 1 d_law_330 rfl rfl ?_
  refine gl_iload_n F 0 d_law_331 rfl rfl ?_
  refine gl_iconst (v := (2 : Int32)) F d_law_332 (by decide) ?_
  refine gl_iadd F d_law_333 ?_
  refine gl_sld F h2 d_law_334 ?_
  refine gl_aload_n F 1 d_law_335 rfl rfl ?_
  refine gl_iload_n F 0 d_law_336 rfl rfl ?_
  refine gl_iconst (v := (3 : Int32)) F d_law_337 (by decide) ?_
  refine gl_iadd F d_law_338 ?_
  refine gl_sld F h3 d_law_339 ?_
  refine gl_cM F (As := [.int (xs (i + (1 : Int32)).toNatClampNeg), .int (xs (i + (2 : Int32)).toNatClampNeg), .int (xs (i + (3 : Int32)).toNatClampNeg)]) (c_Model_pixel F.2.2.2.2.2.2.2.2.1.2 T (xs (i + (1 : Int32)).toNatClampNeg) (xs (i + (2 : Int32)).toNatClampNeg) (xs (i + (3 : Int32)).toNatClampNeg)) cw_Model_pixel cv_Model_pixel tw_667 (by decide) rfl rfl rfl (Nat.le_of_ble_eq_true rfl) hkc d_law_340 ?_
  exact gl_eqT (tgt := 371) F d_law_343 (by decide) (y_pixel h).1 (kk _ _ (y_pixel h).2)
theorem gl_about {X : gx_M} {l : Launch} {D : va_G} {cI cB cC cZ : ClassId} {ad ad' : Nat → Nat} {A : Nat → Prop} {b L : Nat} {xs : Nat → Int32} {k n : Nat} {Q : State → Prop} {S T : gw_S} (F : gl_F X l D cI cB cC cZ ad ad' A b L xs) {i : Int32} (h : eY S T) (h1 : vp_in (i + (1 : Int32)) L) (h2 : vp_in (i + (2 : Int32)) L) (h3 : vp_in (i + (3 : Int32)) L) (hkc : k ≤ room_1.cells ∧ n ≤ room_1.slots) (kk : ∀ S' T' : gw_S, eY S' T' → gl_V X D cI cB cC cZ ad ad' A k n Q S' T' 371 [(3, .int i), (0, .ref b), (1, .ref (ad 0)), (2, .ref (ad' 0))] []) : gl_V X D cI cB cC cZ ad ad' A k n Q S T 348 [(3, .int i), (0, .ref b), (1, .ref (ad 0)), (2, .ref (ad' 0))] [] := by
  refine gl_aload_n F 2 d_law_348 rfl rfl ?_
  refine gl_aload_n F 1 d_law_349 rfl rfl ?_
  refine gl_iload_n F 0 d_law_350 rfl rfl ?_
  refine gl_iconst (v := (1 : Int32)) F d_law_351 (by decide) ?_
  refine gl_iadd F d_law_352 ?_
  refine gl_sld F h1 d_law_353 ?_
  refine gl_cS F (As := [.int (xs (i + (1 : Int32)).toNatClampNeg)]) (c_SM_about F.2.2.2.2.2.2.2.2.1.1 S (xs (i + (1 : Int32)).toNatClampNeg)) cw_SM_about cv_SM_about tw_397 (by decide) rfl rfl rfl (Nat.le_of_ble_eq_true rfl) hkc d_law_354 ?_
  refine gl_aload_n F 3 d_law_357 rfl rfl ?_
  refine gl_aload_n F 1 d_law_358 rfl rfl ?_
  refine gl_iload_n F 0 d_law_359 rfl rfl ?_
  refine gl_iconst (v := (1 : Int32)) F d_law_360 (by decide) ?_
  refine gl_iadd F d_law_361 ?_
  refine gl_sld F h1 d_law_362 ?_
  refine gl_cM F (As := [.int (xs (i + (1 : Int32)).toNatClampNeg)]) (c_Model_about F.2.2.2.2.2.2.2.2.1.2 T (xs (i + (1 : Int32)).toNatClampNeg)) cw_Model_about cv_Model_about tw_671 (by decide) rfl rfl rfl (Nat.le_of_ble_eq_true rfl) hkc d_law_363 ?_
  exact gl_eqT (tgt := 371) F d_law_366 (by decide) (y_about h).1 (kk _ _ (y_about h).2)
