theorem AP_c {g g' : Nat → Int64} {x c : Int64} (e : g' = vp_updL g 0 x) (hx : x = if 0 < c then 1000000 else (-1000000)) : -1000000 ≤ (g' 0).toInt ∧ (g' 0).toInt ≤ 1000000 := by
  subst e
  show -1000000 ≤ x.toInt ∧ x.toInt ≤ 1000000
  rw [hx]
  split <;> decide
set_option maxHeartbeats 4000000 in
theorem tick_test (M_at : Int32) (M_fault : Int32) (M_valueMany : Int32) (M_signMany : Int32) (M_tells : Int64) (M_way : Int32) (M_wish : Int32) (M_moreTick : Int64) (M_moreForce : Int64) (M_runTurns : Int32) (M_runFirst : Int64) (M_runLast : Int64) (fNw : Nat → Int64) (fVs : Nat → Int64) (fSg : Nat → Int32) (P : (Nat → Int64) → Prop) (h0 : ∀ g, P g) : P (fX8_tickOnce M_at M_fault M_valueMany M_signMany M_tells M_way M_wish M_moreTick M_moreForce M_runTurns M_runFirst M_runLast fNw fVs fSg).2.2.2.2.2.2.2.2.1 := by
  unfold fX8_tickOnce
  extract_lets -merge x1_1 r_3 r_6 u_5 x5_8 r_10 z0_13 r_16 w_18 fNw_19 r_21 r_24 w_26 fNw_27 r_29 w_31 fNw_32 z0_34 fNw_36 z_43 z0_45 w_47 fNw_48 r_50 x11_52 r_54 w_56 fNw_57 r_59 r_62 w_64 fNw_65 r_67 w_69 fNw_70 r_72 w_74 fNw_75 w_76 fNw_77 w_78 fNw_79 r_81 z0_211 fNw_213 fNw_214 r_216 x13_218 z0_310 fNw_312 fNw_313 fNw_314 w_315 fNw_316 z0_318 fNw_320 u_321 z0_325 z0_328 fNw_330 w_331 fNw_332 z0_222 z0_225 fNw_227 w_228 fNw_229 r_240 fNw_242 z0_244 z0_247 fNw_249 w_250 fNw_251 r_261 r_265 fNw_267 z0_269 z0_272 fNw_274 w_275 fNw_276 u_285 r_289 fNw_291 z0_293 z0_296 fNw_298 w_299 fNw_300 r_85 x13_87 z0_179 fNw_181 fNw_182 fNw_183 w_184 fNw_185 z0_187 fNw_189 u_190 z0_194 z0_197 fNw_199 w_200 fNw_201 z0_91 z0_94 fNw_96 w_97 fNw_98 r_109 fNw_111 z0_113 z0_116 fNw_118 w_119 fNw_120 r_130 r_134 fNw_136 z0_138 z0_141 fNw_143 w_144 fNw_145 u_154 r_158 fNw_160 z0_162 z0_165 fNw_167 w_168 fNw_169
  split
  · split
    · exact h0 fNw_332
    · split
      · exact h0 fNw_229
      · trace_state
        exact h0 _
  · exact h0 _
