def spX8_tickOnce (M_at : Int32) (M_fault : Int32) (M_valueMany : Int32) (M_signMany : Int32) (M_tells : Int64) (M_way : Int32) (M_wish : Int32) (M_moreTick : Int64) (M_moreForce : Int64) (M_runTurns : Int32) (M_runFirst : Int64) (M_runLast : Int64) (fNw : Nat → Int64) (fVs : Nat → Int64) (fSg : Nat → Int32) (P_ : Int32 × Int32 × Int32 × Int32 × Int64 × Int32 × Int64 × Int64 × (Nat → Int64) × (Nat → Int64) × (Nat → Int32) → Prop) : Prop :=
  ∀ (x1_1 : Int64), x1_1 = (fNw 0) →
  ∀ (r_3 : Int64), r_3 = (fX8_size (fNw 1)) →
  ∀ (r_6 : Int64), r_6 = ((fX8_wished M_at M_fault M_valueMany M_signMany M_tells M_way M_wish fNw fVs fSg).1) →
  ∀ (u_5 : Int32 × Int32 × Int32 × Int32 × Int64 × (Nat → Int64) × (Nat → Int32)), u_5 = ((fX8_wished M_at M_fault M_valueMany M_signMany M_tells M_way M_wish fNw fVs fSg).2) →
  ∀ (x5_8 : Int64), x5_8 = (r_6 - (fNw 2)) →
  ∀ (r_10 : Int64), r_10 = (fX8_of 4 fNw) →
  ∀ (z0_13 : Int64), z0_13 = (if r_10 < x5_8 then fX8_of 4 fNw else if x5_8 < -(fX8_of 4 fNw) then -(fX8_of 4 fNw) else x5_8) →
  ∀ (r_16 : Int64), r_16 = (fX8_lengthNow fNw) →
  ∀ (w_18 : Int64), w_18 = ((fNw 2) + z0_13) →
  ∀ (fNw_19 : Nat → Int64), fNw_19 = (vp_updL fNw 2 w_18) →
  ∀ (r_21 : Int64), r_21 = (fX8_lengthNow fNw_19) →
  ∀ (r_24 : Int64), r_24 = (fX8_of 5 fNw_19) →
  ∀ (w_26 : Int64), w_26 = (((((fNw 1) * r_16) * r_16) / (r_21 * r_21)) + ((r_24 * 100) * z0_13)) →
  ∀ (fNw_27 : Nat → Int64), fNw_27 = (vp_updL fNw_19 1 w_26) →
  ∀ (r_29 : Int64), r_29 = (fX8_size z0_13) →
  ∀ (w_31 : Int64), w_31 = ((fNw 7) + (r_29 * (10 + (r_3 / 10000)))) →
  ∀ (fNw_32 : Nat → Int64), fNw_32 = (vp_updL fNw_27 7 w_31) →
  ∀ (z0_34 : Int64), z0_34 = (if 1000000000 < w_31 then 1000000000 else w_31) →
  ∀ (fNw_36 : Nat → Int64), fNw_36 = (vp_updL fNw_32 7 z0_34) →
  ∀ (z_43 : Int32 × (Nat → Int64)), z_43 = (lpX8_tickOnce_196 (9) 0 fNw_36) →
  ∀ (z0_45 : Int64), z0_45 = (if z_43.2 5 = M_moreTick then M_moreForce else 0) →
  ∀ (w_47 : Int64), w_47 = ((z_43.2 1) + z0_45) →
  ∀ (fNw_48 : Nat → Int64), fNw_48 = (vp_updL z_43.2 1 w_47) →
  ∀ (r_50 : Int64), r_50 = (fX8_of 6 fNw_48) →
  ∀ (x11_52 : Int64), x11_52 = ((r_50 * ((z_43.2 10) - (z_43.2 0))) / 1000) →
  ∀ (r_54 : Int64), r_54 = (fX8_of 1 fNw_48) →
  ∀ (w_56 : Int64), w_56 = (w_47 + (x11_52 - ((r_54 * (z_43.2 0)) / r_21))) →
  ∀ (fNw_57 : Nat → Int64), fNw_57 = (vp_updL fNw_48 1 w_56) →
  ∀ (r_59 : Int64), r_59 = (fX8_of 1 fNw_57) →
  ∀ (r_62 : Int64), r_62 = (fX8_of 7 fNw_57) →
  ∀ (w_64 : Int64), w_64 = ((z_43.2 11) - (((r_59 * (z_43.2 10)) / r_62) + x11_52)) →
  ∀ (fNw_65 : Nat → Int64), fNw_65 = (vp_updL fNw_57 11 w_64) →
  ∀ (r_67 : Int64), r_67 = (fX8_of 2 fNw_65) →
  ∀ (w_69 : Int64), w_69 = (w_56 - ((w_56 * r_67) / 1000)) →
  ∀ (fNw_70 : Nat → Int64), fNw_70 = (vp_updL fNw_65 1 w_69) →
  ∀ (r_72 : Int64), r_72 = (fX8_of 2 fNw_70) →
  ∀ (w_74 : Int64), w_74 = (w_64 - ((w_64 * r_72) / 1000)) →
  ∀ (fNw_75 : Nat → Int64), fNw_75 = (vp_updL fNw_70 11 w_74) →
  ∀ (w_76 : Int64), w_76 = ((z_43.2 0) + w_69) →
  ∀ (fNw_77 : Nat → Int64), fNw_77 = (vp_updL fNw_75 0 w_76) →
  ∀ (w_78 : Int64), w_78 = ((z_43.2 10) + w_74) →
  ∀ (fNw_79 : Nat → Int64), fNw_79 = (vp_updL fNw_77 10 w_78) →
  ∀ (r_81 : Int64), r_81 = (fX8_size w_78) →
  (1000000 < r_81 →
    ∀ (z0_211 : Int64), z0_211 = (if 0 < w_78 then 1000000 else (-1000000)) →
    ∀ (fNw_213 : Nat → Int64), fNw_213 = (vp_updL fNw_79 10 z0_211) →
    ∀ (fNw_214 : Nat → Int64), fNw_214 = (vp_updL fNw_213 11 0) →
    ∀ (r_216 : Int64), r_216 = (fX8_size w_76) →
    ∀ (x13_218 : Int64), x13_218 = (r_216 - 1000000) →
    (0 < x13_218 →
      ∀ (z0_310 : Int64), z0_310 = (if 0 < w_76 then 1000000 else (-1000000)) →
      ∀ (fNw_312 : Nat → Int64), fNw_312 = (vp_updL fNw_214 0 z0_310) →
      ∀ (fNw_313 : Nat → Int64), fNw_313 = (vp_updL fNw_312 1 0) →
      ∀ (fNw_314 : Nat → Int64), fNw_314 = (vp_updL fNw_313 12 0) →
      ∀ (w_315 : Int64), w_315 = ((z_43.2 8) + 1) →
      ∀ (fNw_316 : Nat → Int64), fNw_316 = (vp_updL fNw_314 8 w_315) →
      ∀ (z0_318 : Int64), z0_318 = (if z_43.2 9 < x13_218 then x13_218 else z_43.2 9) →
      ∀ (fNw_320 : Nat → Int64), fNw_320 = (vp_updL fNw_316 9 z0_318) →
      ∀ (u_321 : Int32 × Int64 × Int64 × (Nat → Int64)), u_321 = (fX8_turned M_runTurns M_runFirst fNw_320) →
      ∀ (z0_325 : Int32), z0_325 = (if u_321.2.2.2 0 = 0 then 1 else if x1_1 = 0 then 0 else if fX8_signOf x1_1 = fX8_signOf (u_321.2.2.2 0) then 0 else 1) →
      ∀ (z0_328 : Int64), z0_328 = (if z0_325 = 0 then (u_321.2.2.2 3) + 1 else 0) →
      ∀ (fNw_330 : Nat → Int64), fNw_330 = (vp_updL u_321.2.2.2 3 z0_328) →
      ∀ (w_331 : Int64), w_331 = ((u_321.2.2.2 5) + 1) →
      ∀ (fNw_332 : Nat → Int64), fNw_332 = (vp_updL fNw_330 5 w_331) →
      P_ (u_5.1, u_5.2.1, u_5.2.2.1, u_5.2.2.2.1, u_5.2.2.2.2.1, u_321.1, u_321.2.1, u_321.2.2.1, fNw_332, u_5.2.2.2.2.2.1, u_5.2.2.2.2.2.2)) ∧ (¬ 0 < x13_218 →
      (w_69 = 0 →
        ∀ (z0_222 : Int32), z0_222 = (if w_76 = 0 then 1 else if x1_1 = 0 then 0 else if fX8_signOf x1_1 = fX8_signOf w_76 then 0 else 1) →
        ∀ (z0_225 : Int64), z0_225 = (if z0_222 = 0 then (z_43.2 3) + 1 else 0) →
        ∀ (fNw_227 : Nat → Int64), fNw_227 = (vp_updL fNw_214 3 z0_225) →
        ∀ (w_228 : Int64), w_228 = ((z_43.2 5) + 1) →
        ∀ (fNw_229 : Nat → Int64), fNw_229 = (vp_updL fNw_227 5 w_228) →
        P_ (u_5.1, u_5.2.1, u_5.2.2.1, u_5.2.2.2.1, u_5.2.2.2.2.1, M_runTurns, M_runFirst, M_runLast, fNw_229, u_5.2.2.2.2.2.1, u_5.2.2.2.2.2.2)) ∧ (¬ w_69 = 0 →
        (z_43.2 12 = 0 →
          ∀ (r_240 : Int32), r_240 = (fX8_signOf w_69) →
          ∀ (fNw_242 : Nat → Int64), fNw_242 = (vp_updL fNw_214 12 r_240.toInt64) →
          ∀ (z0_244 : Int32), z0_244 = (if w_76 = 0 then 1 else if x1_1 = 0 then 0 else if fX8_signOf x1_1 = fX8_signOf w_76 then 0 else 1) →
          ∀ (z0_247 : Int64), z0_247 = (if z0_244 = 0 then (z_43.2 3) + 1 else 0) →
          ∀ (fNw_249 : Nat → Int64), fNw_249 = (vp_updL fNw_242 3 z0_247) →
          ∀ (w_250 : Int64), w_250 = ((z_43.2 5) + 1) →
          ∀ (fNw_251 : Nat → Int64), fNw_251 = (vp_updL fNw_249 5 w_250) →
          P_ (u_5.1, u_5.2.1, u_5.2.2.1, u_5.2.2.2.1, u_5.2.2.2.2.1, M_runTurns, M_runFirst, M_runLast, fNw_251, u_5.2.2.2.2.2.1, u_5.2.2.2.2.2.2)) ∧ (¬ z_43.2 12 = 0 →
          ∀ (r_261 : Int32), r_261 = (fX8_signOf w_69) →
          (z_43.2 12 = r_261.toInt64 →
            ∀ (r_265 : Int32), r_265 = (fX8_signOf w_69) →
            ∀ (fNw_267 : Nat → Int64), fNw_267 = (vp_updL fNw_214 12 r_265.toInt64) →
            ∀ (z0_269 : Int32), z0_269 = (if w_76 = 0 then 1 else if x1_1 = 0 then 0 else if fX8_signOf x1_1 = fX8_signOf w_76 then 0 else 1) →
            ∀ (z0_272 : Int64), z0_272 = (if z0_269 = 0 then (z_43.2 3) + 1 else 0) →
            ∀ (fNw_274 : Nat → Int64), fNw_274 = (vp_updL fNw_267 3 z0_272) →
            ∀ (w_275 : Int64), w_275 = ((z_43.2 5) + 1) →
            ∀ (fNw_276 : Nat → Int64), fNw_276 = (vp_updL fNw_274 5 w_275) →
            P_ (u_5.1, u_5.2.1, u_5.2.2.1, u_5.2.2.2.1, u_5.2.2.2.2.1, M_runTurns, M_runFirst, M_runLast, fNw_276, u_5.2.2.2.2.2.1, u_5.2.2.2.2.2.2)) ∧ (¬ z_43.2 12 = r_261.toInt64 →
            ∀ (u_285 : Int32 × Int64 × Int64 × (Nat → Int64)), u_285 = (fX8_turned M_runTurns M_runFirst fNw_214) →
            ∀ (r_289 : Int32), r_289 = (fX8_signOf (u_285.2.2.2 1)) →
            ∀ (fNw_291 : Nat → Int64), fNw_291 = (vp_updL u_285.2.2.2 12 r_289.toInt64) →
            ∀ (z0_293 : Int32), z0_293 = (if u_285.2.2.2 0 = 0 then 1 else if x1_1 = 0 then 0 else if fX8_signOf x1_1 = fX8_signOf (u_285.2.2.2 0) then 0 else 1) →
            ∀ (z0_296 : Int64), z0_296 = (if z0_293 = 0 then (u_285.2.2.2 3) + 1 else 0) →
            ∀ (fNw_298 : Nat → Int64), fNw_298 = (vp_updL fNw_291 3 z0_296) →
            ∀ (w_299 : Int64), w_299 = ((u_285.2.2.2 5) + 1) →
            ∀ (fNw_300 : Nat → Int64), fNw_300 = (vp_updL fNw_298 5 w_299) →
            P_ (u_5.1, u_5.2.1, u_5.2.2.1, u_5.2.2.2.1, u_5.2.2.2.2.1, u_285.1, u_285.2.1, u_285.2.2.1, fNw_300, u_5.2.2.2.2.2.1, u_5.2.2.2.2.2.2)))))) ∧ (¬ 1000000 < r_81 →
    ∀ (r_85 : Int64), r_85 = (fX8_size w_76) →
    ∀ (x13_87 : Int64), x13_87 = (r_85 - 1000000) →
    (0 < x13_87 →
      ∀ (z0_179 : Int64), z0_179 = (if 0 < w_76 then 1000000 else (-1000000)) →
      ∀ (fNw_181 : Nat → Int64), fNw_181 = (vp_updL fNw_79 0 z0_179) →
      ∀ (fNw_182 : Nat → Int64), fNw_182 = (vp_updL fNw_181 1 0) →
      ∀ (fNw_183 : Nat → Int64), fNw_183 = (vp_updL fNw_182 12 0) →
      ∀ (w_184 : Int64), w_184 = ((z_43.2 8) + 1) →
      ∀ (fNw_185 : Nat → Int64), fNw_185 = (vp_updL fNw_183 8 w_184) →
      ∀ (z0_187 : Int64), z0_187 = (if z_43.2 9 < x13_87 then x13_87 else z_43.2 9) →
      ∀ (fNw_189 : Nat → Int64), fNw_189 = (vp_updL fNw_185 9 z0_187) →
      ∀ (u_190 : Int32 × Int64 × Int64 × (Nat → Int64)), u_190 = (fX8_turned M_runTurns M_runFirst fNw_189) →
      ∀ (z0_194 : Int32), z0_194 = (if u_190.2.2.2 0 = 0 then 1 else if x1_1 = 0 then 0 else if fX8_signOf x1_1 = fX8_signOf (u_190.2.2.2 0) then 0 else 1) →
      ∀ (z0_197 : Int64), z0_197 = (if z0_194 = 0 then (u_190.2.2.2 3) + 1 else 0) →
      ∀ (fNw_199 : Nat → Int64), fNw_199 = (vp_updL u_190.2.2.2 3 z0_197) →
      ∀ (w_200 : Int64), w_200 = ((u_190.2.2.2 5) + 1) →
      ∀ (fNw_201 : Nat → Int64), fNw_201 = (vp_updL fNw_199 5 w_200) →
      P_ (u_5.1, u_5.2.1, u_5.2.2.1, u_5.2.2.2.1, u_5.2.2.2.2.1, u_190.1, u_190.2.1, u_190.2.2.1, fNw_201, u_5.2.2.2.2.2.1, u_5.2.2.2.2.2.2)) ∧ (¬ 0 < x13_87 →
      (w_69 = 0 →
        ∀ (z0_91 : Int32), z0_91 = (if w_76 = 0 then 1 else if x1_1 = 0 then 0 else if fX8_signOf x1_1 = fX8_signOf w_76 then 0 else 1) →
        ∀ (z0_94 : Int64), z0_94 = (if z0_91 = 0 then (z_43.2 3) + 1 else 0) →
        ∀ (fNw_96 : Nat → Int64), fNw_96 = (vp_updL fNw_79 3 z0_94) →
        ∀ (w_97 : Int64), w_97 = ((z_43.2 5) + 1) →
        ∀ (fNw_98 : Nat → Int64), fNw_98 = (vp_updL fNw_96 5 w_97) →
        P_ (u_5.1, u_5.2.1, u_5.2.2.1, u_5.2.2.2.1, u_5.2.2.2.2.1, M_runTurns, M_runFirst, M_runLast, fNw_98, u_5.2.2.2.2.2.1, u_5.2.2.2.2.2.2)) ∧ (¬ w_69 = 0 →
        (z_43.2 12 = 0 →
          ∀ (r_109 : Int32), r_109 = (fX8_signOf w_69) →
          ∀ (fNw_111 : Nat → Int64), fNw_111 = (vp_updL fNw_79 12 r_109.toInt64) →
          ∀ (z0_113 : Int32), z0_113 = (if w_76 = 0 then 1 else if x1_1 = 0 then 0 else if fX8_signOf x1_1 = fX8_signOf w_76 then 0 else 1) →
          ∀ (z0_116 : Int64), z0_116 = (if z0_113 = 0 then (z_43.2 3) + 1 else 0) →
          ∀ (fNw_118 : Nat → Int64), fNw_118 = (vp_updL fNw_111 3 z0_116) →
          ∀ (w_119 : Int64), w_119 = ((z_43.2 5) + 1) →
          ∀ (fNw_120 : Nat → Int64), fNw_120 = (vp_updL fNw_118 5 w_119) →
          P_ (u_5.1, u_5.2.1, u_5.2.2.1, u_5.2.2.2.1, u_5.2.2.2.2.1, M_runTurns, M_runFirst, M_runLast, fNw_120, u_5.2.2.2.2.2.1, u_5.2.2.2.2.2.2)) ∧ (¬ z_43.2 12 = 0 →
          ∀ (r_130 : Int32), r_130 = (fX8_signOf w_69) →
          (z_43.2 12 = r_130.toInt64 →
            ∀ (r_134 : Int32), r_134 = (fX8_signOf w_69) →
            ∀ (fNw_136 : Nat → Int64), fNw_136 = (vp_updL fNw_79 12 r_134.toInt64) →
            ∀ (z0_138 : Int32), z0_138 = (if w_76 = 0 then 1 else if x1_1 = 0 then 0 else if fX8_signOf x1_1 = fX8_signOf w_76 then 0 else 1) →
            ∀ (z0_141 : Int64), z0_141 = (if z0_138 = 0 then (z_43.2 3) + 1 else 0) →
            ∀ (fNw_143 : Nat → Int64), fNw_143 = (vp_updL fNw_136 3 z0_141) →
            ∀ (w_144 : Int64), w_144 = ((z_43.2 5) + 1) →
            ∀ (fNw_145 : Nat → Int64), fNw_145 = (vp_updL fNw_143 5 w_144) →
            P_ (u_5.1, u_5.2.1, u_5.2.2.1, u_5.2.2.2.1, u_5.2.2.2.2.1, M_runTurns, M_runFirst, M_runLast, fNw_145, u_5.2.2.2.2.2.1, u_5.2.2.2.2.2.2)) ∧ (¬ z_43.2 12 = r_130.toInt64 →
            ∀ (u_154 : Int32 × Int64 × Int64 × (Nat → Int64)), u_154 = (fX8_turned M_runTurns M_runFirst fNw_79) →
            ∀ (r_158 : Int32), r_158 = (fX8_signOf (u_154.2.2.2 1)) →
            ∀ (fNw_160 : Nat → Int64), fNw_160 = (vp_updL u_154.2.2.2 12 r_158.toInt64) →
            ∀ (z0_162 : Int32), z0_162 = (if u_154.2.2.2 0 = 0 then 1 else if x1_1 = 0 then 0 else if fX8_signOf x1_1 = fX8_signOf (u_154.2.2.2 0) then 0 else 1) →
            ∀ (z0_165 : Int64), z0_165 = (if z0_162 = 0 then (u_154.2.2.2 3) + 1 else 0) →
            ∀ (fNw_167 : Nat → Int64), fNw_167 = (vp_updL fNw_160 3 z0_165) →
            ∀ (w_168 : Int64), w_168 = ((u_154.2.2.2 5) + 1) →
            ∀ (fNw_169 : Nat → Int64), fNw_169 = (vp_updL fNw_167 5 w_168) →
            P_ (u_5.1, u_5.2.1, u_5.2.2.1, u_5.2.2.2.1, u_5.2.2.2.2.1, u_154.1, u_154.2.1, u_154.2.2.1, fNw_169, u_5.2.2.2.2.2.1, u_5.2.2.2.2.2.2))))))
set_option maxHeartbeats 4000000 in
set_option maxRecDepth 100000 in
theorem spX8_tickOnce_ok (M_at : Int32) (M_fault : Int32) (M_valueMany : Int32) (M_signMany : Int32) (M_tells : Int64) (M_way : Int32) (M_wish : Int32) (M_moreTick : Int64) (M_moreForce : Int64) (M_runTurns : Int32) (M_runFirst : Int64) (M_runLast : Int64) (fNw : Nat → Int64) (fVs : Nat → Int64) (fSg : Nat → Int32) (P_ : Int32 × Int32 × Int32 × Int32 × Int64 × Int32 × Int64 × Int64 × (Nat → Int64) × (Nat → Int64) × (Nat → Int32) → Prop) (H : spX8_tickOnce M_at M_fault M_valueMany M_signMany M_tells M_way M_wish M_moreTick M_moreForce M_runTurns M_runFirst M_runLast fNw fVs fSg P_) : P_ (fX8_tickOnce M_at M_fault M_valueMany M_signMany M_tells M_way M_wish M_moreTick M_moreForce M_runTurns M_runFirst M_runLast fNw fVs fSg) := by
  unfold spX8_tickOnce at H
  obtain ⟨x1_1, ex1_1⟩ : ∃ z : Int64, z = (fNw 0) := ⟨_, rfl⟩
  replace H := H x1_1 ex1_1
  obtain ⟨r_3, er_3⟩ : ∃ z : Int64, z = (fX8_size (fNw 1)) := ⟨_, rfl⟩
  replace H := H r_3 er_3
  obtain ⟨r_6, er_6⟩ : ∃ z : Int64, z = ((fX8_wished M_at M_fault M_valueMany M_signMany M_tells M_way M_wish fNw fVs fSg).1) := ⟨_, rfl⟩
  replace H := H r_6 er_6
  obtain ⟨u_5, eu_5⟩ : ∃ z : Int32 × Int32 × Int32 × Int32 × Int64 × (Nat → Int64) × (Nat → Int32), z = ((fX8_wished M_at M_fault M_valueMany M_signMany M_tells M_way M_wish fNw fVs fSg).2) := ⟨_, rfl⟩
  replace H := H u_5 eu_5
  obtain ⟨x5_8, ex5_8⟩ : ∃ z : Int64, z = (r_6 - (fNw 2)) := ⟨_, rfl⟩
  replace H := H x5_8 ex5_8
  obtain ⟨r_10, er_10⟩ : ∃ z : Int64, z = (fX8_of 4 fNw) := ⟨_, rfl⟩
  replace H := H r_10 er_10
  obtain ⟨z0_13, ez0_13⟩ : ∃ z : Int64, z = (if r_10 < x5_8 then fX8_of 4 fNw else if x5_8 < -(fX8_of 4 fNw) then -(fX8_of 4 fNw) else x5_8) := ⟨_, rfl⟩
  replace H := H z0_13 ez0_13
  obtain ⟨r_16, er_16⟩ : ∃ z : Int64, z = (fX8_lengthNow fNw) := ⟨_, rfl⟩
  replace H := H r_16 er_16
  obtain ⟨w_18, ew_18⟩ : ∃ z : Int64, z = ((fNw 2) + z0_13) := ⟨_, rfl⟩
  replace H := H w_18 ew_18
  obtain ⟨fNw_19, efNw_19⟩ : ∃ z : Nat → Int64, z = (vp_updL fNw 2 w_18) := ⟨_, rfl⟩
  replace H := H fNw_19 efNw_19
  obtain ⟨r_21, er_21⟩ : ∃ z : Int64, z = (fX8_lengthNow fNw_19) := ⟨_, rfl⟩
  replace H := H r_21 er_21
  obtain ⟨r_24, er_24⟩ : ∃ z : Int64, z = (fX8_of 5 fNw_19) := ⟨_, rfl⟩
  replace H := H r_24 er_24
  obtain ⟨w_26, ew_26⟩ : ∃ z : Int64, z = (((((fNw 1) * r_16) * r_16) / (r_21 * r_21)) + ((r_24 * 100) * z0_13)) := ⟨_, rfl⟩
  replace H := H w_26 ew_26
  obtain ⟨fNw_27, efNw_27⟩ : ∃ z : Nat → Int64, z = (vp_updL fNw_19 1 w_26) := ⟨_, rfl⟩
  replace H := H fNw_27 efNw_27
  obtain ⟨r_29, er_29⟩ : ∃ z : Int64, z = (fX8_size z0_13) := ⟨_, rfl⟩
  replace H := H r_29 er_29
  obtain ⟨w_31, ew_31⟩ : ∃ z : Int64, z = ((fNw 7) + (r_29 * (10 + (r_3 / 10000)))) := ⟨_, rfl⟩
  replace H := H w_31 ew_31
  obtain ⟨fNw_32, efNw_32⟩ : ∃ z : Nat → Int64, z = (vp_updL fNw_27 7 w_31) := ⟨_, rfl⟩
  replace H := H fNw_32 efNw_32
  obtain ⟨z0_34, ez0_34⟩ : ∃ z : Int64, z = (if 1000000000 < w_31 then 1000000000 else w_31) := ⟨_, rfl⟩
  replace H := H z0_34 ez0_34
  obtain ⟨fNw_36, efNw_36⟩ : ∃ z : Nat → Int64, z = (vp_updL fNw_32 7 z0_34) := ⟨_, rfl⟩
  replace H := H fNw_36 efNw_36
  obtain ⟨z_43, ez_43⟩ : ∃ z : Int32 × (Nat → Int64), z = (lpX8_tickOnce_196 (9) 0 fNw_36) := ⟨_, rfl⟩
  replace H := H z_43 ez_43
  obtain ⟨z0_45, ez0_45⟩ : ∃ z : Int64, z = (if z_43.2 5 = M_moreTick then M_moreForce else 0) := ⟨_, rfl⟩
  replace H := H z0_45 ez0_45
  obtain ⟨w_47, ew_47⟩ : ∃ z : Int64, z = ((z_43.2 1) + z0_45) := ⟨_, rfl⟩
  replace H := H w_47 ew_47
  obtain ⟨fNw_48, efNw_48⟩ : ∃ z : Nat → Int64, z = (vp_updL z_43.2 1 w_47) := ⟨_, rfl⟩
  replace H := H fNw_48 efNw_48
  obtain ⟨r_50, er_50⟩ : ∃ z : Int64, z = (fX8_of 6 fNw_48) := ⟨_, rfl⟩
  replace H := H r_50 er_50
  obtain ⟨x11_52, ex11_52⟩ : ∃ z : Int64, z = ((r_50 * ((z_43.2 10) - (z_43.2 0))) / 1000) := ⟨_, rfl⟩
  replace H := H x11_52 ex11_52
  obtain ⟨r_54, er_54⟩ : ∃ z : Int64, z = (fX8_of 1 fNw_48) := ⟨_, rfl⟩
  replace H := H r_54 er_54
  obtain ⟨w_56, ew_56⟩ : ∃ z : Int64, z = (w_47 + (x11_52 - ((r_54 * (z_43.2 0)) / r_21))) := ⟨_, rfl⟩
  replace H := H w_56 ew_56
  obtain ⟨fNw_57, efNw_57⟩ : ∃ z : Nat → Int64, z = (vp_updL fNw_48 1 w_56) := ⟨_, rfl⟩
  replace H := H fNw_57 efNw_57
  obtain ⟨r_59, er_59⟩ : ∃ z : Int64, z = (fX8_of 1 fNw_57) := ⟨_, rfl⟩
  replace H := H r_59 er_59
  obtain ⟨r_62, er_62⟩ : ∃ z : Int64, z = (fX8_of 7 fNw_57) := ⟨_, rfl⟩
  replace H := H r_62 er_62
  obtain ⟨w_64, ew_64⟩ : ∃ z : Int64, z = ((z_43.2 11) - (((r_59 * (z_43.2 10)) / r_62) + x11_52)) := ⟨_, rfl⟩
  replace H := H w_64 ew_64
  obtain ⟨fNw_65, efNw_65⟩ : ∃ z : Nat → Int64, z = (vp_updL fNw_57 11 w_64) := ⟨_, rfl⟩
  replace H := H fNw_65 efNw_65
  obtain ⟨r_67, er_67⟩ : ∃ z : Int64, z = (fX8_of 2 fNw_65) := ⟨_, rfl⟩
  replace H := H r_67 er_67
  obtain ⟨w_69, ew_69⟩ : ∃ z : Int64, z = (w_56 - ((w_56 * r_67) / 1000)) := ⟨_, rfl⟩
  replace H := H w_69 ew_69
  obtain ⟨fNw_70, efNw_70⟩ : ∃ z : Nat → Int64, z = (vp_updL fNw_65 1 w_69) := ⟨_, rfl⟩
  replace H := H fNw_70 efNw_70
  obtain ⟨r_72, er_72⟩ : ∃ z : Int64, z = (fX8_of 2 fNw_70) := ⟨_, rfl⟩
  replace H := H r_72 er_72
  obtain ⟨w_74, ew_74⟩ : ∃ z : Int64, z = (w_64 - ((w_64 * r_72) / 1000)) := ⟨_, rfl⟩
  replace H := H w_74 ew_74
  obtain ⟨fNw_75, efNw_75⟩ : ∃ z : Nat → Int64, z = (vp_updL fNw_70 11 w_74) := ⟨_, rfl⟩
  replace H := H fNw_75 efNw_75
  obtain ⟨w_76, ew_76⟩ : ∃ z : Int64, z = ((z_43.2 0) + w_69) := ⟨_, rfl⟩
  replace H := H w_76 ew_76
  obtain ⟨fNw_77, efNw_77⟩ : ∃ z : Nat → Int64, z = (vp_updL fNw_75 0 w_76) := ⟨_, rfl⟩
  replace H := H fNw_77 efNw_77
  obtain ⟨w_78, ew_78⟩ : ∃ z : Int64, z = ((z_43.2 10) + w_74) := ⟨_, rfl⟩
  replace H := H w_78 ew_78
  obtain ⟨fNw_79, efNw_79⟩ : ∃ z : Nat → Int64, z = (vp_updL fNw_77 10 w_78) := ⟨_, rfl⟩
  replace H := H fNw_79 efNw_79
  obtain ⟨r_81, er_81⟩ : ∃ z : Int64, z = (fX8_size w_78) := ⟨_, rfl⟩
  replace H := H r_81 er_81
  by_cases c1 : 1000000 < r_81
  · replace H := H.1 c1
    obtain ⟨z0_211, ez0_211⟩ : ∃ z : Int64, z = (if 0 < w_78 then 1000000 else (-1000000)) := ⟨_, rfl⟩
    replace H := H z0_211 ez0_211
    obtain ⟨fNw_213, efNw_213⟩ : ∃ z : Nat → Int64, z = (vp_updL fNw_79 10 z0_211) := ⟨_, rfl⟩
    replace H := H fNw_213 efNw_213
    obtain ⟨fNw_214, efNw_214⟩ : ∃ z : Nat → Int64, z = (vp_updL fNw_213 11 0) := ⟨_, rfl⟩
    replace H := H fNw_214 efNw_214
    obtain ⟨r_216, er_216⟩ : ∃ z : Int64, z = (fX8_size w_76) := ⟨_, rfl⟩
    replace H := H r_216 er_216
    obtain ⟨x13_218, ex13_218⟩ : ∃ z : Int64, z = (r_216 - 1000000) := ⟨_, rfl⟩
    replace H := H x13_218 ex13_218
    by_cases c2 : 0 < x13_218
    · replace H := H.1 c2
      obtain ⟨z0_310, ez0_310⟩ : ∃ z : Int64, z = (if 0 < w_76 then 1000000 else (-1000000)) := ⟨_, rfl⟩
      replace H := H z0_310 ez0_310
      obtain ⟨fNw_312, efNw_312⟩ : ∃ z : Nat → Int64, z = (vp_updL fNw_214 0 z0_310) := ⟨_, rfl⟩
      replace H := H fNw_312 efNw_312
      obtain ⟨fNw_313, efNw_313⟩ : ∃ z : Nat → Int64, z = (vp_updL fNw_312 1 0) := ⟨_, rfl⟩
      replace H := H fNw_313 efNw_313
      obtain ⟨fNw_314, efNw_314⟩ : ∃ z : Nat → Int64, z = (vp_updL fNw_313 12 0) := ⟨_, rfl⟩
      replace H := H fNw_314 efNw_314
      obtain ⟨w_315, ew_315⟩ : ∃ z : Int64, z = ((z_43.2 8) + 1) := ⟨_, rfl⟩
      replace H := H w_315 ew_315
      obtain ⟨fNw_316, efNw_316⟩ : ∃ z : Nat → Int64, z = (vp_updL fNw_314 8 w_315) := ⟨_, rfl⟩
      replace H := H fNw_316 efNw_316
      obtain ⟨z0_318, ez0_318⟩ : ∃ z : Int64, z = (if z_43.2 9 < x13_218 then x13_218 else z_43.2 9) := ⟨_, rfl⟩
      replace H := H z0_318 ez0_318
      obtain ⟨fNw_320, efNw_320⟩ : ∃ z : Nat → Int64, z = (vp_updL fNw_316 9 z0_318) := ⟨_, rfl⟩
      replace H := H fNw_320 efNw_320
      obtain ⟨u_321, eu_321⟩ : ∃ z : Int32 × Int64 × Int64 × (Nat → Int64), z = (fX8_turned M_runTurns M_runFirst fNw_320) := ⟨_, rfl⟩
      replace H := H u_321 eu_321
      obtain ⟨z0_325, ez0_325⟩ : ∃ z : Int32, z = (if u_321.2.2.2 0 = 0 then 1 else if x1_1 = 0 then 0 else if fX8_signOf x1_1 = fX8_signOf (u_321.2.2.2 0) then 0 else 1) := ⟨_, rfl⟩
      replace H := H z0_325 ez0_325
      obtain ⟨z0_328, ez0_328⟩ : ∃ z : Int64, z = (if z0_325 = 0 then (u_321.2.2.2 3) + 1 else 0) := ⟨_, rfl⟩
      replace H := H z0_328 ez0_328
      obtain ⟨fNw_330, efNw_330⟩ : ∃ z : Nat → Int64, z = (vp_updL u_321.2.2.2 3 z0_328) := ⟨_, rfl⟩
      replace H := H fNw_330 efNw_330
      obtain ⟨w_331, ew_331⟩ : ∃ z : Int64, z = ((u_321.2.2.2 5) + 1) := ⟨_, rfl⟩
      replace H := H w_331 ew_331
      obtain ⟨fNw_332, efNw_332⟩ : ∃ z : Nat → Int64, z = (vp_updL fNw_330 5 w_331) := ⟨_, rfl⟩
      replace H := H fNw_332 efNw_332
      have hf : fX8_tickOnce M_at M_fault M_valueMany M_signMany M_tells M_way M_wish M_moreTick M_moreForce M_runTurns M_runFirst M_runLast fNw fVs fSg = ((u_5.1, u_5.2.1, u_5.2.2.1, u_5.2.2.2.1, u_5.2.2.2.2.1, u_321.1, u_321.2.1, u_321.2.2.1, fNw_332, u_5.2.2.2.2.2.1, u_5.2.2.2.2.2.2)) := by
        clear H
        subst efNw_332 ew_331 efNw_330 ez0_328 ez0_325 eu_321 efNw_320 ez0_318 efNw_316 ew_315 efNw_314 efNw_313 efNw_312 ez0_310 ex13_218 er_216 efNw_214 efNw_213 ez0_211 er_81 efNw_79 ew_78 efNw_77 ew_76 efNw_75 ew_74 er_72 efNw_70 ew_69 er_67 efNw_65 ew_64 er_62 er_59 efNw_57 ew_56 er_54 ex11_52 er_50 efNw_48 ew_47 ez0_45 ez_43 efNw_36 ez0_34 efNw_32 ew_31 er_29 efNw_27 ew_26 er_24 er_21 efNw_19 ew_18 er_16 ez0_13 er_10 ex5_8 eu_5 er_6 er_3 ex1_1
        exact (if_pos c1).trans ((if_pos c2).trans (rfl))
      rw [hf]; exact H
    · replace H := H.2 c2
      by_cases c3 : w_69 = 0
      · replace H := H.1 c3
        obtain ⟨z0_222, ez0_222⟩ : ∃ z : Int32, z = (if w_76 = 0 then 1 else if x1_1 = 0 then 0 else if fX8_signOf x1_1 = fX8_signOf w_76 then 0 else 1) := ⟨_, rfl⟩
        replace H := H z0_222 ez0_222
        obtain ⟨z0_225, ez0_225⟩ : ∃ z : Int64, z = (if z0_222 = 0 then (z_43.2 3) + 1 else 0) := ⟨_, rfl⟩
        replace H := H z0_225 ez0_225
        obtain ⟨fNw_227, efNw_227⟩ : ∃ z : Nat → Int64, z = (vp_updL fNw_214 3 z0_225) := ⟨_, rfl⟩
        replace H := H fNw_227 efNw_227
        obtain ⟨w_228, ew_228⟩ : ∃ z : Int64, z = ((z_43.2 5) + 1) := ⟨_, rfl⟩
        replace H := H w_228 ew_228
        obtain ⟨fNw_229, efNw_229⟩ : ∃ z : Nat → Int64, z = (vp_updL fNw_227 5 w_228) := ⟨_, rfl⟩
        replace H := H fNw_229 efNw_229
        have hf : fX8_tickOnce M_at M_fault M_valueMany M_signMany M_tells M_way M_wish M_moreTick M_moreForce M_runTurns M_runFirst M_runLast fNw fVs fSg = ((u_5.1, u_5.2.1, u_5.2.2.1, u_5.2.2.2.1, u_5.2.2.2.2.1, M_runTurns, M_runFirst, M_runLast, fNw_229, u_5.2.2.2.2.2.1, u_5.2.2.2.2.2.2)) := by
          clear H
          subst efNw_229 ew_228 efNw_227 ez0_225 ez0_222 ex13_218 er_216 efNw_214 efNw_213 ez0_211 er_81 efNw_79 ew_78 efNw_77 ew_76 efNw_75 ew_74 er_72 efNw_70 ew_69 er_67 efNw_65 ew_64 er_62 er_59 efNw_57 ew_56 er_54 ex11_52 er_50 efNw_48 ew_47 ez0_45 ez_43 efNw_36 ez0_34 efNw_32 ew_31 er_29 efNw_27 ew_26 er_24 er_21 efNw_19 ew_18 er_16 ez0_13 er_10 ex5_8 eu_5 er_6 er_3 ex1_1
          exact (if_pos c1).trans ((if_neg c2).trans ((if_pos c3).trans (rfl)))
        rw [hf]; exact H
      · replace H := H.2 c3
        by_cases c4 : z_43.2 12 = 0
        · replace H := H.1 c4
          obtain ⟨r_240, er_240⟩ : ∃ z : Int32, z = (fX8_signOf w_69) := ⟨_, rfl⟩
          replace H := H r_240 er_240
          obtain ⟨fNw_242, efNw_242⟩ : ∃ z : Nat → Int64, z = (vp_updL fNw_214 12 r_240.toInt64) := ⟨_, rfl⟩
          replace H := H fNw_242 efNw_242
          obtain ⟨z0_244, ez0_244⟩ : ∃ z : Int32, z = (if w_76 = 0 then 1 else if x1_1 = 0 then 0 else if fX8_signOf x1_1 = fX8_signOf w_76 then 0 else 1) := ⟨_, rfl⟩
          replace H := H z0_244 ez0_244
          obtain ⟨z0_247, ez0_247⟩ : ∃ z : Int64, z = (if z0_244 = 0 then (z_43.2 3) + 1 else 0) := ⟨_, rfl⟩
          replace H := H z0_247 ez0_247
          obtain ⟨fNw_249, efNw_249⟩ : ∃ z : Nat → Int64, z = (vp_updL fNw_242 3 z0_247) := ⟨_, rfl⟩
          replace H := H fNw_249 efNw_249
          obtain ⟨w_250, ew_250⟩ : ∃ z : Int64, z = ((z_43.2 5) + 1) := ⟨_, rfl⟩
          replace H := H w_250 ew_250
          obtain ⟨fNw_251, efNw_251⟩ : ∃ z : Nat → Int64, z = (vp_updL fNw_249 5 w_250) := ⟨_, rfl⟩
          replace H := H fNw_251 efNw_251
          have hf : fX8_tickOnce M_at M_fault M_valueMany M_signMany M_tells M_way M_wish M_moreTick M_moreForce M_runTurns M_runFirst M_runLast fNw fVs fSg = ((u_5.1, u_5.2.1, u_5.2.2.1, u_5.2.2.2.1, u_5.2.2.2.2.1, M_runTurns, M_runFirst, M_runLast, fNw_251, u_5.2.2.2.2.2.1, u_5.2.2.2.2.2.2)) := by
            clear H
            subst efNw_251 ew_250 efNw_249 ez0_247 ez0_244 efNw_242 er_240 ex13_218 er_216 efNw_214 efNw_213 ez0_211 er_81 efNw_79 ew_78 efNw_77 ew_76 efNw_75 ew_74 er_72 efNw_70 ew_69 er_67 efNw_65 ew_64 er_62 er_59 efNw_57 ew_56 er_54 ex11_52 er_50 efNw_48 ew_47 ez0_45 ez_43 efNw_36 ez0_34 efNw_32 ew_31 er_29 efNw_27 ew_26 er_24 er_21 efNw_19 ew_18 er_16 ez0_13 er_10 ex5_8 eu_5 er_6 er_3 ex1_1
            exact (if_pos c1).trans ((if_neg c2).trans ((if_neg c3).trans ((if_pos c4).trans (rfl))))
          rw [hf]; exact H
        · replace H := H.2 c4
          obtain ⟨r_261, er_261⟩ : ∃ z : Int32, z = (fX8_signOf w_69) := ⟨_, rfl⟩
          replace H := H r_261 er_261
          by_cases c5 : z_43.2 12 = r_261.toInt64
          · replace H := H.1 c5
            obtain ⟨r_265, er_265⟩ : ∃ z : Int32, z = (fX8_signOf w_69) := ⟨_, rfl⟩
            replace H := H r_265 er_265
            obtain ⟨fNw_267, efNw_267⟩ : ∃ z : Nat → Int64, z = (vp_updL fNw_214 12 r_265.toInt64) := ⟨_, rfl⟩
            replace H := H fNw_267 efNw_267
            obtain ⟨z0_269, ez0_269⟩ : ∃ z : Int32, z = (if w_76 = 0 then 1 else if x1_1 = 0 then 0 else if fX8_signOf x1_1 = fX8_signOf w_76 then 0 else 1) := ⟨_, rfl⟩
            replace H := H z0_269 ez0_269
            obtain ⟨z0_272, ez0_272⟩ : ∃ z : Int64, z = (if z0_269 = 0 then (z_43.2 3) + 1 else 0) := ⟨_, rfl⟩
            replace H := H z0_272 ez0_272
            obtain ⟨fNw_274, efNw_274⟩ : ∃ z : Nat → Int64, z = (vp_updL fNw_267 3 z0_272) := ⟨_, rfl⟩
            replace H := H fNw_274 efNw_274
            obtain ⟨w_275, ew_275⟩ : ∃ z : Int64, z = ((z_43.2 5) + 1) := ⟨_, rfl⟩
            replace H := H w_275 ew_275
            obtain ⟨fNw_276, efNw_276⟩ : ∃ z : Nat → Int64, z = (vp_updL fNw_274 5 w_275) := ⟨_, rfl⟩
            replace H := H fNw_276 efNw_276
            have hf : fX8_tickOnce M_at M_fault M_valueMany M_signMany M_tells M_way M_wish M_moreTick M_moreForce M_runTurns M_runFirst M_runLast fNw fVs fSg = ((u_5.1, u_5.2.1, u_5.2.2.1, u_5.2.2.2.1, u_5.2.2.2.2.1, M_runTurns, M_runFirst, M_runLast, fNw_276, u_5.2.2.2.2.2.1, u_5.2.2.2.2.2.2)) := by
              clear H
              subst efNw_276 ew_275 efNw_274 ez0_272 ez0_269 efNw_267 er_265 er_261 ex13_218 er_216 efNw_214 efNw_213 ez0_211 er_81 efNw_79 ew_78 efNw_77 ew_76 efNw_75 ew_74 er_72 efNw_70 ew_69 er_67 efNw_65 ew_64 er_62 er_59 efNw_57 ew_56 er_54 ex11_52 er_50 efNw_48 ew_47 ez0_45 ez_43 efNw_36 ez0_34 efNw_32 ew_31 er_29 efNw_27 ew_26 er_24 er_21 efNw_19 ew_18 er_16 ez0_13 er_10 ex5_8 eu_5 er_6 er_3 ex1_1
              exact (if_pos c1).trans ((if_neg c2).trans ((if_neg c3).trans ((if_neg c4).trans ((if_pos c5).trans (rfl)))))
            rw [hf]; exact H
          · replace H := H.2 c5
            obtain ⟨u_285, eu_285⟩ : ∃ z : Int32 × Int64 × Int64 × (Nat → Int64), z = (fX8_turned M_runTurns M_runFirst fNw_214) := ⟨_, rfl⟩
            replace H := H u_285 eu_285
            obtain ⟨r_289, er_289⟩ : ∃ z : Int32, z = (fX8_signOf (u_285.2.2.2 1)) := ⟨_, rfl⟩
            replace H := H r_289 er_289
            obtain ⟨fNw_291, efNw_291⟩ : ∃ z : Nat → Int64, z = (vp_updL u_285.2.2.2 12 r_289.toInt64) := ⟨_, rfl⟩
            replace H := H fNw_291 efNw_291
            obtain ⟨z0_293, ez0_293⟩ : ∃ z : Int32, z = (if u_285.2.2.2 0 = 0 then 1 else if x1_1 = 0 then 0 else if fX8_signOf x1_1 = fX8_signOf (u_285.2.2.2 0) then 0 else 1) := ⟨_, rfl⟩
            replace H := H z0_293 ez0_293
            obtain ⟨z0_296, ez0_296⟩ : ∃ z : Int64, z = (if z0_293 = 0 then (u_285.2.2.2 3) + 1 else 0) := ⟨_, rfl⟩
            replace H := H z0_296 ez0_296
            obtain ⟨fNw_298, efNw_298⟩ : ∃ z : Nat → Int64, z = (vp_updL fNw_291 3 z0_296) := ⟨_, rfl⟩
            replace H := H fNw_298 efNw_298
            obtain ⟨w_299, ew_299⟩ : ∃ z : Int64, z = ((u_285.2.2.2 5) + 1) := ⟨_, rfl⟩
            replace H := H w_299 ew_299
            obtain ⟨fNw_300, efNw_300⟩ : ∃ z : Nat → Int64, z = (vp_updL fNw_298 5 w_299) := ⟨_, rfl⟩
            replace H := H fNw_300 efNw_300
            have hf : fX8_tickOnce M_at M_fault M_valueMany M_signMany M_tells M_way M_wish M_moreTick M_moreForce M_runTurns M_runFirst M_runLast fNw fVs fSg = ((u_5.1, u_5.2.1, u_5.2.2.1, u_5.2.2.2.1, u_5.2.2.2.2.1, u_285.1, u_285.2.1, u_285.2.2.1, fNw_300, u_5.2.2.2.2.2.1, u_5.2.2.2.2.2.2)) := by
              clear H
              subst efNw_300 ew_299 efNw_298 ez0_296 ez0_293 efNw_291 er_289 eu_285 er_261 ex13_218 er_216 efNw_214 efNw_213 ez0_211 er_81 efNw_79 ew_78 efNw_77 ew_76 efNw_75 ew_74 er_72 efNw_70 ew_69 er_67 efNw_65 ew_64 er_62 er_59 efNw_57 ew_56 er_54 ex11_52 er_50 efNw_48 ew_47 ez0_45 ez_43 efNw_36 ez0_34 efNw_32 ew_31 er_29 efNw_27 ew_26 er_24 er_21 efNw_19 ew_18 er_16 ez0_13 er_10 ex5_8 eu_5 er_6 er_3 ex1_1
              exact (if_pos c1).trans ((if_neg c2).trans ((if_neg c3).trans ((if_neg c4).trans ((if_neg c5).trans (rfl)))))
            rw [hf]; exact H
  · replace H := H.2 c1
    obtain ⟨r_85, er_85⟩ : ∃ z : Int64, z = (fX8_size w_76) := ⟨_, rfl⟩
    replace H := H r_85 er_85
    obtain ⟨x13_87, ex13_87⟩ : ∃ z : Int64, z = (r_85 - 1000000) := ⟨_, rfl⟩
    replace H := H x13_87 ex13_87
    by_cases c6 : 0 < x13_87
    · replace H := H.1 c6
      obtain ⟨z0_179, ez0_179⟩ : ∃ z : Int64, z = (if 0 < w_76 then 1000000 else (-1000000)) := ⟨_, rfl⟩
      replace H := H z0_179 ez0_179
      obtain ⟨fNw_181, efNw_181⟩ : ∃ z : Nat → Int64, z = (vp_updL fNw_79 0 z0_179) := ⟨_, rfl⟩
      replace H := H fNw_181 efNw_181
      obtain ⟨fNw_182, efNw_182⟩ : ∃ z : Nat → Int64, z = (vp_updL fNw_181 1 0) := ⟨_, rfl⟩
      replace H := H fNw_182 efNw_182
      obtain ⟨fNw_183, efNw_183⟩ : ∃ z : Nat → Int64, z = (vp_updL fNw_182 12 0) := ⟨_, rfl⟩
      replace H := H fNw_183 efNw_183
      obtain ⟨w_184, ew_184⟩ : ∃ z : Int64, z = ((z_43.2 8) + 1) := ⟨_, rfl⟩
      replace H := H w_184 ew_184
      obtain ⟨fNw_185, efNw_185⟩ : ∃ z : Nat → Int64, z = (vp_updL fNw_183 8 w_184) := ⟨_, rfl⟩
      replace H := H fNw_185 efNw_185
      obtain ⟨z0_187, ez0_187⟩ : ∃ z : Int64, z = (if z_43.2 9 < x13_87 then x13_87 else z_43.2 9) := ⟨_, rfl⟩
      replace H := H z0_187 ez0_187
      obtain ⟨fNw_189, efNw_189⟩ : ∃ z : Nat → Int64, z = (vp_updL fNw_185 9 z0_187) := ⟨_, rfl⟩
      replace H := H fNw_189 efNw_189
      obtain ⟨u_190, eu_190⟩ : ∃ z : Int32 × Int64 × Int64 × (Nat → Int64), z = (fX8_turned M_runTurns M_runFirst fNw_189) := ⟨_, rfl⟩
      replace H := H u_190 eu_190
      obtain ⟨z0_194, ez0_194⟩ : ∃ z : Int32, z = (if u_190.2.2.2 0 = 0 then 1 else if x1_1 = 0 then 0 else if fX8_signOf x1_1 = fX8_signOf (u_190.2.2.2 0) then 0 else 1) := ⟨_, rfl⟩
      replace H := H z0_194 ez0_194
      obtain ⟨z0_197, ez0_197⟩ : ∃ z : Int64, z = (if z0_194 = 0 then (u_190.2.2.2 3) + 1 else 0) := ⟨_, rfl⟩
      replace H := H z0_197 ez0_197
      obtain ⟨fNw_199, efNw_199⟩ : ∃ z : Nat → Int64, z = (vp_updL u_190.2.2.2 3 z0_197) := ⟨_, rfl⟩
      replace H := H fNw_199 efNw_199
      obtain ⟨w_200, ew_200⟩ : ∃ z : Int64, z = ((u_190.2.2.2 5) + 1) := ⟨_, rfl⟩
      replace H := H w_200 ew_200
      obtain ⟨fNw_201, efNw_201⟩ : ∃ z : Nat → Int64, z = (vp_updL fNw_199 5 w_200) := ⟨_, rfl⟩
      replace H := H fNw_201 efNw_201
      have hf : fX8_tickOnce M_at M_fault M_valueMany M_signMany M_tells M_way M_wish M_moreTick M_moreForce M_runTurns M_runFirst M_runLast fNw fVs fSg = ((u_5.1, u_5.2.1, u_5.2.2.1, u_5.2.2.2.1, u_5.2.2.2.2.1, u_190.1, u_190.2.1, u_190.2.2.1, fNw_201, u_5.2.2.2.2.2.1, u_5.2.2.2.2.2.2)) := by
        clear H
        subst efNw_201 ew_200 efNw_199 ez0_197 ez0_194 eu_190 efNw_189 ez0_187 efNw_185 ew_184 efNw_183 efNw_182 efNw_181 ez0_179 ex13_87 er_85 er_81 efNw_79 ew_78 efNw_77 ew_76 efNw_75 ew_74 er_72 efNw_70 ew_69 er_67 efNw_65 ew_64 er_62 er_59 efNw_57 ew_56 er_54 ex11_52 er_50 efNw_48 ew_47 ez0_45 ez_43 efNw_36 ez0_34 efNw_32 ew_31 er_29 efNw_27 ew_26 er_24 er_21 efNw_19 ew_18 er_16 ez0_13 er_10 ex5_8 eu_5 er_6 er_3 ex1_1
        exact (if_neg c1).trans ((if_pos c6).trans (rfl))
      rw [hf]; exact H
    · replace H := H.2 c6
      by_cases c7 : w_69 = 0
      · replace H := H.1 c7
        obtain ⟨z0_91, ez0_91⟩ : ∃ z : Int32, z = (if w_76 = 0 then 1 else if x1_1 = 0 then 0 else if fX8_signOf x1_1 = fX8_signOf w_76 then 0 else 1) := ⟨_, rfl⟩
        replace H := H z0_91 ez0_91
        obtain ⟨z0_94, ez0_94⟩ : ∃ z : Int64, z = (if z0_91 = 0 then (z_43.2 3) + 1 else 0) := ⟨_, rfl⟩
        replace H := H z0_94 ez0_94
        obtain ⟨fNw_96, efNw_96⟩ : ∃ z : Nat → Int64, z = (vp_updL fNw_79 3 z0_94) := ⟨_, rfl⟩
        replace H := H fNw_96 efNw_96
        obtain ⟨w_97, ew_97⟩ : ∃ z : Int64, z = ((z_43.2 5) + 1) := ⟨_, rfl⟩
        replace H := H w_97 ew_97
        obtain ⟨fNw_98, efNw_98⟩ : ∃ z : Nat → Int64, z = (vp_updL fNw_96 5 w_97) := ⟨_, rfl⟩
        replace H := H fNw_98 efNw_98
        have hf : fX8_tickOnce M_at M_fault M_valueMany M_signMany M_tells M_way M_wish M_moreTick M_moreForce M_runTurns M_runFirst M_runLast fNw fVs fSg = ((u_5.1, u_5.2.1, u_5.2.2.1, u_5.2.2.2.1, u_5.2.2.2.2.1, M_runTurns, M_runFirst, M_runLast, fNw_98, u_5.2.2.2.2.2.1, u_5.2.2.2.2.2.2)) := by
          clear H
          subst efNw_98 ew_97 efNw_96 ez0_94 ez0_91 ex13_87 er_85 er_81 efNw_79 ew_78 efNw_77 ew_76 efNw_75 ew_74 er_72 efNw_70 ew_69 er_67 efNw_65 ew_64 er_62 er_59 efNw_57 ew_56 er_54 ex11_52 er_50 efNw_48 ew_47 ez0_45 ez_43 efNw_36 ez0_34 efNw_32 ew_31 er_29 efNw_27 ew_26 er_24 er_21 efNw_19 ew_18 er_16 ez0_13 er_10 ex5_8 eu_5 er_6 er_3 ex1_1
          exact (if_neg c1).trans ((if_neg c6).trans ((if_pos c7).trans (rfl)))
        rw [hf]; exact H
      · replace H := H.2 c7
        by_cases c8 : z_43.2 12 = 0
        · replace H := H.1 c8
          obtain ⟨r_109, er_109⟩ : ∃ z : Int32, z = (fX8_signOf w_69) := ⟨_, rfl⟩
          replace H := H r_109 er_109
          obtain ⟨fNw_111, efNw_111⟩ : ∃ z : Nat → Int64, z = (vp_updL fNw_79 12 r_109.toInt64) := ⟨_, rfl⟩
          replace H := H fNw_111 efNw_111
          obtain ⟨z0_113, ez0_113⟩ : ∃ z : Int32, z = (if w_76 = 0 then 1 else if x1_1 = 0 then 0 else if fX8_signOf x1_1 = fX8_signOf w_76 then 0 else 1) := ⟨_, rfl⟩
          replace H := H z0_113 ez0_113
          obtain ⟨z0_116, ez0_116⟩ : ∃ z : Int64, z = (if z0_113 = 0 then (z_43.2 3) + 1 else 0) := ⟨_, rfl⟩
          replace H := H z0_116 ez0_116
          obtain ⟨fNw_118, efNw_118⟩ : ∃ z : Nat → Int64, z = (vp_updL fNw_111 3 z0_116) := ⟨_, rfl⟩
          replace H := H fNw_118 efNw_118
          obtain ⟨w_119, ew_119⟩ : ∃ z : Int64, z = ((z_43.2 5) + 1) := ⟨_, rfl⟩
          replace H := H w_119 ew_119
          obtain ⟨fNw_120, efNw_120⟩ : ∃ z : Nat → Int64, z = (vp_updL fNw_118 5 w_119) := ⟨_, rfl⟩
          replace H := H fNw_120 efNw_120
          have hf : fX8_tickOnce M_at M_fault M_valueMany M_signMany M_tells M_way M_wish M_moreTick M_moreForce M_runTurns M_runFirst M_runLast fNw fVs fSg = ((u_5.1, u_5.2.1, u_5.2.2.1, u_5.2.2.2.1, u_5.2.2.2.2.1, M_runTurns, M_runFirst, M_runLast, fNw_120, u_5.2.2.2.2.2.1, u_5.2.2.2.2.2.2)) := by
            clear H
            subst efNw_120 ew_119 efNw_118 ez0_116 ez0_113 efNw_111 er_109 ex13_87 er_85 er_81 efNw_79 ew_78 efNw_77 ew_76 efNw_75 ew_74 er_72 efNw_70 ew_69 er_67 efNw_65 ew_64 er_62 er_59 efNw_57 ew_56 er_54 ex11_52 er_50 efNw_48 ew_47 ez0_45 ez_43 efNw_36 ez0_34 efNw_32 ew_31 er_29 efNw_27 ew_26 er_24 er_21 efNw_19 ew_18 er_16 ez0_13 er_10 ex5_8 eu_5 er_6 er_3 ex1_1
            exact (if_neg c1).trans ((if_neg c6).trans ((if_neg c7).trans ((if_pos c8).trans (rfl))))
          rw [hf]; exact H
        · replace H := H.2 c8
          obtain ⟨r_130, er_130⟩ : ∃ z : Int32, z = (fX8_signOf w_69) := ⟨_, rfl⟩
          replace H := H r_130 er_130
          by_cases c9 : z_43.2 12 = r_130.toInt64
          · replace H := H.1 c9
            obtain ⟨r_134, er_134⟩ : ∃ z : Int32, z = (fX8_signOf w_69) := ⟨_, rfl⟩
            replace H := H r_134 er_134
            obtain ⟨fNw_136, efNw_136⟩ : ∃ z : Nat → Int64, z = (vp_updL fNw_79 12 r_134.toInt64) := ⟨_, rfl⟩
            replace H := H fNw_136 efNw_136
            obtain ⟨z0_138, ez0_138⟩ : ∃ z : Int32, z = (if w_76 = 0 then 1 else if x1_1 = 0 then 0 else if fX8_signOf x1_1 = fX8_signOf w_76 then 0 else 1) := ⟨_, rfl⟩
            replace H := H z0_138 ez0_138
            obtain ⟨z0_141, ez0_141⟩ : ∃ z : Int64, z = (if z0_138 = 0 then (z_43.2 3) + 1 else 0) := ⟨_, rfl⟩
            replace H := H z0_141 ez0_141
            obtain ⟨fNw_143, efNw_143⟩ : ∃ z : Nat → Int64, z = (vp_updL fNw_136 3 z0_141) := ⟨_, rfl⟩
            replace H := H fNw_143 efNw_143
            obtain ⟨w_144, ew_144⟩ : ∃ z : Int64, z = ((z_43.2 5) + 1) := ⟨_, rfl⟩
            replace H := H w_144 ew_144
            obtain ⟨fNw_145, efNw_145⟩ : ∃ z : Nat → Int64, z = (vp_updL fNw_143 5 w_144) := ⟨_, rfl⟩
            replace H := H fNw_145 efNw_145
            have hf : fX8_tickOnce M_at M_fault M_valueMany M_signMany M_tells M_way M_wish M_moreTick M_moreForce M_runTurns M_runFirst M_runLast fNw fVs fSg = ((u_5.1, u_5.2.1, u_5.2.2.1, u_5.2.2.2.1, u_5.2.2.2.2.1, M_runTurns, M_runFirst, M_runLast, fNw_145, u_5.2.2.2.2.2.1, u_5.2.2.2.2.2.2)) := by
              clear H
              subst efNw_145 ew_144 efNw_143 ez0_141 ez0_138 efNw_136 er_134 er_130 ex13_87 er_85 er_81 efNw_79 ew_78 efNw_77 ew_76 efNw_75 ew_74 er_72 efNw_70 ew_69 er_67 efNw_65 ew_64 er_62 er_59 efNw_57 ew_56 er_54 ex11_52 er_50 efNw_48 ew_47 ez0_45 ez_43 efNw_36 ez0_34 efNw_32 ew_31 er_29 efNw_27 ew_26 er_24 er_21 efNw_19 ew_18 er_16 ez0_13 er_10 ex5_8 eu_5 er_6 er_3 ex1_1
              exact (if_neg c1).trans ((if_neg c6).trans ((if_neg c7).trans ((if_neg c8).trans ((if_pos c9).trans (rfl)))))
            rw [hf]; exact H
          · replace H := H.2 c9
            obtain ⟨u_154, eu_154⟩ : ∃ z : Int32 × Int64 × Int64 × (Nat → Int64), z = (fX8_turned M_runTurns M_runFirst fNw_79) := ⟨_, rfl⟩
            replace H := H u_154 eu_154
            obtain ⟨r_158, er_158⟩ : ∃ z : Int32, z = (fX8_signOf (u_154.2.2.2 1)) := ⟨_, rfl⟩
            replace H := H r_158 er_158
            obtain ⟨fNw_160, efNw_160⟩ : ∃ z : Nat → Int64, z = (vp_updL u_154.2.2.2 12 r_158.toInt64) := ⟨_, rfl⟩
            replace H := H fNw_160 efNw_160
            obtain ⟨z0_162, ez0_162⟩ : ∃ z : Int32, z = (if u_154.2.2.2 0 = 0 then 1 else if x1_1 = 0 then 0 else if fX8_signOf x1_1 = fX8_signOf (u_154.2.2.2 0) then 0 else 1) := ⟨_, rfl⟩
            replace H := H z0_162 ez0_162
            obtain ⟨z0_165, ez0_165⟩ : ∃ z : Int64, z = (if z0_162 = 0 then (u_154.2.2.2 3) + 1 else 0) := ⟨_, rfl⟩
            replace H := H z0_165 ez0_165
            obtain ⟨fNw_167, efNw_167⟩ : ∃ z : Nat → Int64, z = (vp_updL fNw_160 3 z0_165) := ⟨_, rfl⟩
            replace H := H fNw_167 efNw_167
            obtain ⟨w_168, ew_168⟩ : ∃ z : Int64, z = ((u_154.2.2.2 5) + 1) := ⟨_, rfl⟩
            replace H := H w_168 ew_168
            obtain ⟨fNw_169, efNw_169⟩ : ∃ z : Nat → Int64, z = (vp_updL fNw_167 5 w_168) := ⟨_, rfl⟩
            replace H := H fNw_169 efNw_169
            have hf : fX8_tickOnce M_at M_fault M_valueMany M_signMany M_tells M_way M_wish M_moreTick M_moreForce M_runTurns M_runFirst M_runLast fNw fVs fSg = ((u_5.1, u_5.2.1, u_5.2.2.1, u_5.2.2.2.1, u_5.2.2.2.2.1, u_154.1, u_154.2.1, u_154.2.2.1, fNw_169, u_5.2.2.2.2.2.1, u_5.2.2.2.2.2.2)) := by
              clear H
              subst efNw_169 ew_168 efNw_167 ez0_165 ez0_162 efNw_160 er_158 eu_154 er_130 ex13_87 er_85 er_81 efNw_79 ew_78 efNw_77 ew_76 efNw_75 ew_74 er_72 efNw_70 ew_69 er_67 efNw_65 ew_64 er_62 er_59 efNw_57 ew_56 er_54 ex11_52 er_50 efNw_48 ew_47 ez0_45 ez_43 efNw_36 ez0_34 efNw_32 ew_31 er_29 efNw_27 ew_26 er_24 er_21 efNw_19 ew_18 er_16 ez0_13 er_10 ex5_8 eu_5 er_6 er_3 ex1_1
              exact (if_neg c1).trans ((if_neg c6).trans ((if_neg c7).trans ((if_neg c8).trans ((if_neg c9).trans (rfl)))))
            rw [hf]; exact H
