theorem hd_X8_lengthNow : yX8_lengthNow.cls = RX8 ∧ yX8_lengthNow.cls ≠ "java/lang/invoke/MethodHandle" ∧ yX8_lengthNow.cls ≠ "java/lang/invoke/VarHandle" ∧ (parseMethodDescriptor yX8_lengthNow.desc).map (fun d => d.parameters.length) = some 0 := by decide +kernel
theorem hd_X8_signOf : yX8_signOf.cls ≠ "java/lang/invoke/MethodHandle" ∧ yX8_signOf.cls ≠ "java/lang/invoke/VarHandle" ∧ (parseMethodDescriptor yX8_signOf.desc).map (fun d => d.parameters.length) = some 1 := by decide +kernel
theorem hd_X8_turned : yX8_turned.cls = RX8 ∧ yX8_turned.cls ≠ "java/lang/invoke/MethodHandle" ∧ yX8_turned.cls ≠ "java/lang/invoke/VarHandle" ∧ (parseMethodDescriptor yX8_turned.desc).map (fun d => d.parameters.length) = some 0 := by decide +kernel
theorem hd_X8_wished : yX8_wished.cls = RX8 ∧ yX8_wished.cls ≠ "java/lang/invoke/MethodHandle" ∧ yX8_wished.cls ≠ "java/lang/invoke/VarHandle" ∧ (parseMethodDescriptor yX8_wished.desc).map (fun d => d.parameters.length) = some 0 := by decide +kernel
def lpX8_tickOnce_196  : Nat → Int32 → (Nat → Int64) → Int32 × (Nat → Int64)
  | 0, _, _ => (0, fun _ => 0)
  | N + 1, k, nf =>
    let r_38 : Int32 := fX8_pushMany nf
    if r_38 ≤ k then (
    (k, nf))
    else (
    let z0_42 : Int64 := if nf (123 + 2 * k.toNatClampNeg) = nf 5 then nf (124 + 2 * k.toNatClampNeg) else 0
    let w_44 : Int64 := (nf 1) + z0_42
    let fNw_45 : Nat → Int64 := vp_updL nf 1 w_44
    lpX8_tickOnce_196 N (k + 1) fNw_45)

def fX8_tickOnce (M_at : Int32) (M_fault : Int32) (M_valueMany : Int32) (M_signMany : Int32) (M_tells : Int64) (M_way : Int32) (M_wish : Int32) (M_moreTick : Int64) (M_moreForce : Int64) (M_runTurns : Int32) (M_runFirst : Int64) (M_runLast : Int64) (fNw : Nat → Int64) (fVs : Nat → Int64) (fSg : Nat → Int32) : Int32 × Int32 × Int32 × Int32 × Int64 × Int32 × Int64 × Int64 × (Nat → Int64) × (Nat → Int64) × (Nat → Int32) :=
  let x1_1 : Int64 := fNw 0
  let r_3 : Int64 := fX8_size (fNw 1)
  let r_6 : Int64 := (fX8_wished M_at M_fault M_valueMany M_signMany M_tells M_way M_wish fNw fVs fSg).1
  let u_5 : Int32 × Int32 × Int32 × Int32 × Int64 × (Nat → Int64) × (Nat → Int32) := (fX8_wished M_at M_fault M_valueMany M_signMany M_tells M_way M_wish fNw fVs fSg).2
  let x5_8 : Int64 := r_6 - (fNw 2)
  let r_10 : Int64 := fX8_of 4 fNw
  let z0_13 : Int64 := if r_10 < x5_8 then fX8_of 4 fNw else if x5_8 < -(fX8_of 4 fNw) then -(fX8_of 4 fNw) else x5_8
  let r_16 : Int64 := fX8_lengthNow fNw
  let w_18 : Int64 := (fNw 2) + z0_13
  let fNw_19 : Nat → Int64 := vp_updL fNw 2 w_18
  let r_21 : Int64 := fX8_lengthNow fNw_19
  let r_24 : Int64 := fX8_of 5 fNw_19
  let w_26 : Int64 := ((((fNw 1) * r_16) * r_16) / (r_21 * r_21)) + ((r_24 * 100) * z0_13)
  let fNw_27 : Nat → Int64 := vp_updL fNw_19 1 w_26
  let r_29 : Int64 := fX8_size z0_13
  let w_31 : Int64 := (fNw 7) + (r_29 * (10 + (r_3 / 10000)))
  let fNw_32 : Nat → Int64 := vp_updL fNw_27 7 w_31
  let z0_34 : Int64 := if 1000000000 < w_31 then 1000000000 else w_31
  let fNw_36 : Nat → Int64 := vp_updL fNw_32 7 z0_34
  let z_43 : Int32 × (Nat → Int64) := lpX8_tickOnce_196 (9) 0 fNw_36
  let z0_45 : Int64 := if z_43.2 5 = M_moreTick then M_moreForce else 0
  let w_47 : Int64 := (z_43.2 1) + z0_45
  let fNw_48 : Nat → Int64 := vp_updL z_43.2 1 w_47
  let r_50 : Int64 := fX8_of 6 fNw_48
  let x11_52 : Int64 := (r_50 * ((z_43.2 10) - (z_43.2 0))) / 1000
  let r_54 : Int64 := fX8_of 1 fNw_48
  let w_56 : Int64 := w_47 + (x11_52 - ((r_54 * (z_43.2 0)) / r_21))
  let fNw_57 : Nat → Int64 := vp_updL fNw_48 1 w_56
  let r_59 : Int64 := fX8_of 1 fNw_57
  let r_62 : Int64 := fX8_of 7 fNw_57
  let w_64 : Int64 := (z_43.2 11) - (((r_59 * (z_43.2 10)) / r_62) + x11_52)
  let fNw_65 : Nat → Int64 := vp_updL fNw_57 11 w_64
  let r_67 : Int64 := fX8_of 2 fNw_65
  let w_69 : Int64 := w_56 - ((w_56 * r_67) / 1000)
  let fNw_70 : Nat → Int64 := vp_updL fNw_65 1 w_69
  let r_72 : Int64 := fX8_of 2 fNw_70
  let w_74 : Int64 := w_64 - ((w_64 * r_72) / 1000)
  let fNw_75 : Nat → Int64 := vp_updL fNw_70 11 w_74
  let w_76 : Int64 := (z_43.2 0) + w_69
  let fNw_77 : Nat → Int64 := vp_updL fNw_75 0 w_76
  let w_78 : Int64 := (z_43.2 10) + w_74
  let fNw_79 : Nat → Int64 := vp_updL fNw_77 10 w_78
  let r_81 : Int64 := fX8_size w_78
  if 1000000 < r_81 then (
    let z0_211 : Int64 := if 0 < w_78 then 1000000 else (-1000000)
    let fNw_213 : Nat → Int64 := vp_updL fNw_79 10 z0_211
    let fNw_214 : Nat → Int64 := vp_updL fNw_213 11 0
    let r_216 : Int64 := fX8_size w_76
    let x13_218 : Int64 := r_216 - 1000000
    if 0 < x13_218 then (
      let z0_310 : Int64 := if 0 < w_76 then 1000000 else (-1000000)
      let fNw_312 : Nat → Int64 := vp_updL fNw_214 0 z0_310
      let fNw_313 : Nat → Int64 := vp_updL fNw_312 1 0
      let fNw_314 : Nat → Int64 := vp_updL fNw_313 12 0
      let w_315 : Int64 := (z_43.2 8) + 1
      let fNw_316 : Nat → Int64 := vp_updL fNw_314 8 w_315
      let z0_318 : Int64 := if z_43.2 9 < x13_218 then x13_218 else z_43.2 9
      let fNw_320 : Nat → Int64 := vp_updL fNw_316 9 z0_318
      let u_321 : Int32 × Int64 × Int64 × (Nat → Int64) := fX8_turned M_runTurns M_runFirst fNw_320
      let z0_325 : Int32 := if u_321.2.2.2 0 = 0 then 1 else if x1_1 = 0 then 0 else if fX8_signOf x1_1 = fX8_signOf (u_321.2.2.2 0) then 0 else 1
      let z0_328 : Int64 := if z0_325 = 0 then (u_321.2.2.2 3) + 1 else 0
      let fNw_330 : Nat → Int64 := vp_updL u_321.2.2.2 3 z0_328
      let w_331 : Int64 := (u_321.2.2.2 5) + 1
      let fNw_332 : Nat → Int64 := vp_updL fNw_330 5 w_331
      (u_5.1, u_5.2.1, u_5.2.2.1, u_5.2.2.2.1, u_5.2.2.2.2.1, u_321.1, u_321.2.1, u_321.2.2.1, fNw_332, u_5.2.2.2.2.2.1, u_5.2.2.2.2.2.2))
    else (
      if w_69 = 0 then (
        let z0_222 : Int32 := if w_76 = 0 then 1 else if x1_1 = 0 then 0 else if fX8_signOf x1_1 = fX8_signOf w_76 then 0 else 1
        let z0_225 : Int64 := if z0_222 = 0 then (z_43.2 3) + 1 else 0
        let fNw_227 : Nat → Int64 := vp_updL fNw_214 3 z0_225
        let w_228 : Int64 := (z_43.2 5) + 1
        let fNw_229 : Nat → Int64 := vp_updL fNw_227 5 w_228
        (u_5.1, u_5.2.1, u_5.2.2.1, u_5.2.2.2.1, u_5.2.2.2.2.1, M_runTurns, M_runFirst, M_runLast, fNw_229, u_5.2.2.2.2.2.1, u_5.2.2.2.2.2.2))
      else (
        if z_43.2 12 = 0 then (
          let r_240 : Int32 := fX8_signOf w_69
          let fNw_242 : Nat → Int64 := vp_updL fNw_214 12 r_240.toInt64
          let z0_244 : Int32 := if w_76 = 0 then 1 else if x1_1 = 0 then 0 else if fX8_signOf x1_1 = fX8_signOf w_76 then 0 else 1
          let z0_247 : Int64 := if z0_244 = 0 then (z_43.2 3) + 1 else 0
          let fNw_249 : Nat → Int64 := vp_updL fNw_242 3 z0_247
          let w_250 : Int64 := (z_43.2 5) + 1
          let fNw_251 : Nat → Int64 := vp_updL fNw_249 5 w_250
          (u_5.1, u_5.2.1, u_5.2.2.1, u_5.2.2.2.1, u_5.2.2.2.2.1, M_runTurns, M_runFirst, M_runLast, fNw_251, u_5.2.2.2.2.2.1, u_5.2.2.2.2.2.2))
        else (
          let r_261 : Int32 := fX8_signOf w_69
          if z_43.2 12 = r_261.toInt64 then (
            let r_265 : Int32 := fX8_signOf w_69
            let fNw_267 : Nat → Int64 := vp_updL fNw_214 12 r_265.toInt64
            let z0_269 : Int32 := if w_76 = 0 then 1 else if x1_1 = 0 then 0 else if fX8_signOf x1_1 = fX8_signOf w_76 then 0 else 1
            let z0_272 : Int64 := if z0_269 = 0 then (z_43.2 3) + 1 else 0
            let fNw_274 : Nat → Int64 := vp_updL fNw_267 3 z0_272
            let w_275 : Int64 := (z_43.2 5) + 1
            let fNw_276 : Nat → Int64 := vp_updL fNw_274 5 w_275
            (u_5.1, u_5.2.1, u_5.2.2.1, u_5.2.2.2.1, u_5.2.2.2.2.1, M_runTurns, M_runFirst, M_runLast, fNw_276, u_5.2.2.2.2.2.1, u_5.2.2.2.2.2.2))
          else (
            let u_285 : Int32 × Int64 × Int64 × (Nat → Int64) := fX8_turned M_runTurns M_runFirst fNw_214
            let r_289 : Int32 := fX8_signOf (u_285.2.2.2 1)
            let fNw_291 : Nat → Int64 := vp_updL u_285.2.2.2 12 r_289.toInt64
            let z0_293 : Int32 := if u_285.2.2.2 0 = 0 then 1 else if x1_1 = 0 then 0 else if fX8_signOf x1_1 = fX8_signOf (u_285.2.2.2 0) then 0 else 1
            let z0_296 : Int64 := if z0_293 = 0 then (u_285.2.2.2 3) + 1 else 0
            let fNw_298 : Nat → Int64 := vp_updL fNw_291 3 z0_296
            let w_299 : Int64 := (u_285.2.2.2 5) + 1
            let fNw_300 : Nat → Int64 := vp_updL fNw_298 5 w_299
            (u_5.1, u_5.2.1, u_5.2.2.1, u_5.2.2.2.1, u_5.2.2.2.2.1, u_285.1, u_285.2.1, u_285.2.2.1, fNw_300, u_5.2.2.2.2.2.1, u_5.2.2.2.2.2.2))))))
  else (
    let r_85 : Int64 := fX8_size w_76
    let x13_87 : Int64 := r_85 - 1000000
    if 0 < x13_87 then (
      let z0_179 : Int64 := if 0 < w_76 then 1000000 else (-1000000)
      let fNw_181 : Nat → Int64 := vp_updL fNw_79 0 z0_179
      let fNw_182 : Nat → Int64 := vp_updL fNw_181 1 0
      let fNw_183 : Nat → Int64 := vp_updL fNw_182 12 0
      let w_184 : Int64 := (z_43.2 8) + 1
      let fNw_185 : Nat → Int64 := vp_updL fNw_183 8 w_184
      let z0_187 : Int64 := if z_43.2 9 < x13_87 then x13_87 else z_43.2 9
      let fNw_189 : Nat → Int64 := vp_updL fNw_185 9 z0_187
      let u_190 : Int32 × Int64 × Int64 × (Nat → Int64) := fX8_turned M_runTurns M_runFirst fNw_189
      let z0_194 : Int32 := if u_190.2.2.2 0 = 0 then 1 else if x1_1 = 0 then 0 else if fX8_signOf x1_1 = fX8_signOf (u_190.2.2.2 0) then 0 else 1
      let z0_197 : Int64 := if z0_194 = 0 then (u_190.2.2.2 3) + 1 else 0
      let fNw_199 : Nat → Int64 := vp_updL u_190.2.2.2 3 z0_197
      let w_200 : Int64 := (u_190.2.2.2 5) + 1
      let fNw_201 : Nat → Int64 := vp_updL fNw_199 5 w_200
      (u_5.1, u_5.2.1, u_5.2.2.1, u_5.2.2.2.1, u_5.2.2.2.2.1, u_190.1, u_190.2.1, u_190.2.2.1, fNw_201, u_5.2.2.2.2.2.1, u_5.2.2.2.2.2.2))
    else (
      if w_69 = 0 then (
        let z0_91 : Int32 := if w_76 = 0 then 1 else if x1_1 = 0 then 0 else if fX8_signOf x1_1 = fX8_signOf w_76 then 0 else 1
        let z0_94 : Int64 := if z0_91 = 0 then (z_43.2 3) + 1 else 0
        let fNw_96 : Nat → Int64 := vp_updL fNw_79 3 z0_94
        let w_97 : Int64 := (z_43.2 5) + 1
        let fNw_98 : Nat → Int64 := vp_updL fNw_96 5 w_97
        (u_5.1, u_5.2.1, u_5.2.2.1, u_5.2.2.2.1, u_5.2.2.2.2.1, M_runTurns, M_runFirst, M_runLast, fNw_98, u_5.2.2.2.2.2.1, u_5.2.2.2.2.2.2))
      else (
        if z_43.2 12 = 0 then (
          let r_109 : Int32 := fX8_signOf w_69
          let fNw_111 : Nat → Int64 := vp_updL fNw_79 12 r_109.toInt64
          let z0_113 : Int32 := if w_76 = 0 then 1 else if x1_1 = 0 then 0 else if fX8_signOf x1_1 = fX8_signOf w_76 then 0 else 1
          let z0_116 : Int64 := if z0_113 = 0 then (z_43.2 3) + 1 else 0
          let fNw_118 : Nat → Int64 := vp_updL fNw_111 3 z0_116
          let w_119 : Int64 := (z_43.2 5) + 1
          let fNw_120 : Nat → Int64 := vp_updL fNw_118 5 w_119
          (u_5.1, u_5.2.1, u_5.2.2.1, u_5.2.2.2.1, u_5.2.2.2.2.1, M_runTurns, M_runFirst, M_runLast, fNw_120, u_5.2.2.2.2.2.1, u_5.2.2.2.2.2.2))
        else (
          let r_130 : Int32 := fX8_signOf w_69
          if z_43.2 12 = r_130.toInt64 then (
            let r_134 : Int32 := fX8_signOf w_69
            let fNw_136 : Nat → Int64 := vp_updL fNw_79 12 r_134.toInt64
            let z0_138 : Int32 := if w_76 = 0 then 1 else if x1_1 = 0 then 0 else if fX8_signOf x1_1 = fX8_signOf w_76 then 0 else 1
            let z0_141 : Int64 := if z0_138 = 0 then (z_43.2 3) + 1 else 0
            let fNw_143 : Nat → Int64 := vp_updL fNw_136 3 z0_141
            let w_144 : Int64 := (z_43.2 5) + 1
            let fNw_145 : Nat → Int64 := vp_updL fNw_143 5 w_144
            (u_5.1, u_5.2.1, u_5.2.2.1, u_5.2.2.2.1, u_5.2.2.2.2.1, M_runTurns, M_runFirst, M_runLast, fNw_145, u_5.2.2.2.2.2.1, u_5.2.2.2.2.2.2))
          else (
            let u_154 : Int32 × Int64 × Int64 × (Nat → Int64) := fX8_turned M_runTurns M_runFirst fNw_79
            let r_158 : Int32 := fX8_signOf (u_154.2.2.2 1)
            let fNw_160 : Nat → Int64 := vp_updL u_154.2.2.2 12 r_158.toInt64
            let z0_162 : Int32 := if u_154.2.2.2 0 = 0 then 1 else if x1_1 = 0 then 0 else if fX8_signOf x1_1 = fX8_signOf (u_154.2.2.2 0) then 0 else 1
            let z0_165 : Int64 := if z0_162 = 0 then (u_154.2.2.2 3) + 1 else 0
            let fNw_167 : Nat → Int64 := vp_updL fNw_160 3 z0_165
            let w_168 : Int64 := (u_154.2.2.2 5) + 1
            let fNw_169 : Nat → Int64 := vp_updL fNw_167 5 w_168
            (u_5.1, u_5.2.1, u_5.2.2.1, u_5.2.2.2.1, u_5.2.2.2.2.1, u_154.1, u_154.2.1, u_154.2.2.1, fNw_169, u_5.2.2.2.2.2.1, u_5.2.2.2.2.2.2))))))

set_option maxHeartbeats 4000000 in
set_option maxRecDepth 100000 in
theorem c_X8_tickOnce (l : Launch) (G : va_G) (aM aNw aVs aSg rM_kept rM_isKept rM_refused rM_was : Nat) (cNw cVs cSg : ClassId) (M_at : Int32) (M_fault : Int32) (M_valueMany : Int32) (M_signMany : Int32) (M_tells : Int64) (M_way : Int32) (M_wish : Int32) (M_moreTick : Int64) (M_moreForce : Int64) (M_runTurns : Int32) (M_runFirst : Int64) (M_runLast : Int64) (M_peak : Int64) (M_beside : Int64) (M_besideAt : Int32) (fNw : Nat → Int64) (fVs : Nat → Int64) (fSg : Nat → Int32) (wn : WN_ fNw) (wh : M_way = 1 → 0 ≤ M_wish.toInt ∧ M_wish.toInt ≤ 9) : kCv l yX8_tickOnce (Cond.code yX8_tickOnce cX8_tickOnce 16 none :: wsL_law) ({ frames := 4, cells := 0, slots := 0, locals := 92 }) G [(cNw, .long), (cVs, .long), (cSg, .int)] [.ref aM] [(aM, .inr (8, [.ref aNw, .ref rM_kept, .ref rM_isKept, .ref rM_refused, .int M_at, .int M_fault, .ref aVs, .int M_valueMany, .ref aSg, .int M_signMany, .long M_tells, .int M_way, .int M_wish, .long M_moreTick, .long M_moreForce, .int M_runTurns, .long M_runFirst, .long M_runLast, .ref rM_was, .long M_peak, .long M_beside, .int M_besideAt])), (aNw, .inl (cNw, 139, .inr (.inl fNw))), (aVs, .inl (cVs, 64, .inr (.inl fVs))), (aSg, .inl (cSg, 128, .inl fSg))] (fun (u : Int32 × Int32 × Int32 × Int32 × Int64 × Int32 × Int64 × Int64 × (Nat → Int64) × (Nat → Int64) × (Nat → Int32)) => u = fX8_tickOnce M_at M_fault M_valueMany M_signMany M_tells M_way M_wish M_moreTick M_moreForce M_runTurns M_runFirst M_runLast fNw fVs fSg) (fun (u : Int32 × Int32 × Int32 × Int32 × Int64 × Int32 × Int64 × Int64 × (Nat → Int64) × (Nat → Int64) × (Nat → Int32)) => [(aM, .inr (8, [.ref aNw, .ref rM_kept, .ref rM_isKept, .ref rM_refused, .int u.1, .int u.2.1, .ref aVs, .int u.2.2.1, .ref aSg, .int u.2.2.2.1, .long u.2.2.2.2.1, .int M_way, .int M_wish, .long M_moreTick, .long M_moreForce, .int u.2.2.2.2.2.1, .long u.2.2.2.2.2.2.1, .long u.2.2.2.2.2.2.2.1, .ref rM_was, .long M_peak, .long M_beside, .int M_besideAt])), (aNw, .inl (cNw, 139, .inr (.inl u.2.2.2.2.2.2.2.2.1))), (aVs, .inl (cVs, 64, .inr (.inl u.2.2.2.2.2.2.2.2.2.1))), (aSg, .inl (cSg, 128, .inl u.2.2.2.2.2.2.2.2.2.2))]) := by
  intro sz
  refine Met.ofW (cc := cX8_tickOnce) (maxL := 16) (ret := none) (by decide) rfl ?_
  intro p e s m args below meth c s₁ B hml hv
  obtain ⟨rfl, hv⟩ := hv
  obtain ⟨rfl, hK, hq, hA⟩ := kk_begin hv
  have hx := B.exec
  have hb := B.bytes
  have hr := B.returns
  have hts := atoms_spec (ws := (Cond.code yX8_tickOnce cX8_tickOnce 16 none :: wsL_law)) B.pre
  have hown : s.vm.findClass RX8 = some m.cls := findClass_of_methodNamed B.named
  have hlocks := B.notSynchronized
  have hsb : ∀ w ∈ wsL_law, w ∈ (Cond.code yX8_tickOnce cX8_tickOnce 16 none :: wsL_law) := fun _ h => List.mem_cons_of_mem _ h
  generalize va_A [(aM, .inr (8, [.ref aNw, .ref rM_kept, .ref rM_isKept, .ref rM_refused, .int M_at, .int M_fault, .ref aVs, .int M_valueMany, .ref aSg, .int M_signMany, .long M_tells, .int M_way, .int M_wish, .long M_moreTick, .long M_moreForce, .int M_runTurns, .long M_runFirst, .long M_runLast, .ref rM_was, .long M_peak, .long M_beside, .int M_besideAt])), (aNw, .inl (cNw, 139, .inr (.inl fNw))), (aVs, .inl (cVs, 64, .inr (.inl fVs))), (aSg, .inl (cSg, 128, .inl fSg))] s.heap.size = A at hq hA ⊢
  have iX8 : ∀ w ∈ u_ws RX8 TX8 22, w ∈ (Cond.code yX8_tickOnce cX8_tickOnce 16 none :: wsL_law) := fun w h => hsb w (bin_X8 w h)
  have lk0_ := hts _ (hsb _ wd_117)
  have lk1_ := hts _ (hsb _ wd_544)
  have lk2_ := hts _ (hsb _ wd_309)
  have lk3_ := hts _ (hsb _ wd_545)
  have lk4_ := hts _ (hsb _ wd_546)
  have lk5_ := hts _ (hsb _ wd_124)
  have lk6_ := hts _ (hsb _ wd_547)
  have lk7_ := hts _ (hsb _ wd_548)
  have lk8_ := hts _ (hsb _ wd_396)
  have lk9_ := hts _ (hsb _ wd_395)
  have hl := lv_entry ([.ref aM]) (n := 16) (Nat.le_of_ble_eq_true rfl)
  rw [lg_entry_eq]
  generalize (lg_sl ([.ref aM]) ++ List.replicate (16 - (lg_sl ([.ref aM])).length) Slot.unset).toArray = ls at hl ⊢
  have hl : lv_has ls 16 [(0, .ref aM)] := hl
  refine lv_aload_n hx hb dX8_tickOnce_0 rfl (lv_at hl 0 rfl) ?_
  refine kk_get (ci := 8) (v := .ref aNw) (C := RX8) (T := TX8) (N := 22) hx hb hts iX8 hown hK hq 0 rfl rfl 0 (by decide) lk0_ rfl dX8_tickOnce_1 ?_
  refine lv_iconst (v := 0) hx hb dX8_tickOnce_4 (by decide) ?_
  refine kk_lald hx hb hK hq 1 0 rfl rfl 0 rfl (by decide) (by decide) dX8_tickOnce_5 ?_
  refine lv_topl (fun x1_1 ex1_1 => ?_)
  refine lv_lstore_n (lv' := [(1, .long x1_1), (0, .ref aM)]) hx hb dX8_tickOnce_6 rfl hl (by decide) rfl (fun ls hl => ?_)
  refine lv_aload_n hx hb dX8_tickOnce_7 rfl (lv_at hl 1 rfl) ?_
  refine kk_get (ci := 8) (v := .ref aNw) (C := RX8) (T := TX8) (N := 22) hx hb hts iX8 hown hK hq 0 rfl rfl 0 (by decide) lk0_ rfl dX8_tickOnce_8 ?_
  refine lv_iconst (v := 1) hx hb dX8_tickOnce_11 (by decide) ?_
  refine kk_lald hx hb hK hq 1 0 rfl rfl 1 rfl (by decide) (by decide) dX8_tickOnce_12 ?_
  refine kk_Sl (As := [.long (fNw 1)]) (rest := []) (wr := [(aM, .inr (8, [.ref aNw, .ref rM_kept, .ref rM_isKept, .ref rM_refused, .int M_at, .int M_fault, .ref aVs, .int M_valueMany, .ref aSg, .int M_signMany, .long M_tells, .int M_way, .int M_wish, .long M_moreTick, .long M_moreForce, .int M_runTurns, .long M_runFirst, .long M_runLast, .ref rM_was, .long M_peak, .long M_beside, .int M_besideAt])), (aNw, .inl (cNw, 139, .inr (.inl fNw))), (aVs, .inl (cVs, 64, .inr (.inl fVs))), (aSg, .inl (cSg, 128, .inl fSg))]) ⟨hx, hb, hml, hown, hts⟩ (c_X8_size l G (fNw 1)) (kk_cwS 1 hts hsb wd_401 wd_402 wd_5 wd_403 rfl rfl hd_X8_size ⟨Nat.le_of_ble_eq_true rfl, Nat.le_of_ble_eq_true rfl⟩) hA hK hq [] [0, 1, 2, 3] [] rfl rfl rfl (by decide) (by decide) (by decide) rfl hl.1 rfl (Nat.le_of_ble_eq_true rfl) dX8_tickOnce_13 ⟨Nat.zero_le _, Nat.zero_le _⟩ (fun r_3 u_2 H locs h_4 hq => ?_)
  have er_3 := h_4
  have hq : kAt G A s [(aM, .inr (8, [.ref aNw, .ref rM_kept, .ref rM_isKept, .ref rM_refused, .int M_at, .int M_fault, .ref aVs, .int M_valueMany, .ref aSg, .int M_signMany, .long M_tells, .int M_way, .int M_wish, .long M_moreTick, .long M_moreForce, .int M_runTurns, .long M_runFirst, .long M_runLast, .ref rM_was, .long M_peak, .long M_beside, .int M_besideAt])), (aNw, .inl (cNw, 139, .inr (.inl fNw))), (aVs, .inl (cVs, 64, .inr (.inl fVs))), (aSg, .inl (cSg, 128, .inl fSg))] H locs := hq
  have l0 := wn.1.1
  have l1 := wn.1.2
  have hh := wn.2.2.2.1
  refine lv_lstore_n (lv' := [(3, .long r_3), (1, .long x1_1), (0, .ref aM)]) hx hb dX8_tickOnce_16 rfl hl (by decide) rfl (fun ls hl => ?_)
  refine lv_aload_n hx hb dX8_tickOnce_17 rfl (lv_at hl 2 rfl) ?_
  refine kk_Vl (As := []) (rest := []) (wr := []) ⟨hx, hb, hml, hown, hts⟩ (c_X8_wished l G aM aNw aVs aSg rM_kept rM_isKept rM_refused rM_was cNw cVs cSg M_at M_fault M_valueMany M_signMany M_tells M_way M_wish M_moreTick M_moreForce M_runTurns M_runFirst M_runLast M_peak M_beside M_besideAt fNw fVs fSg l0 l1 hh wh) (kk_cwV 0 hts hsb wd_549 wd_550 wd_551 wd_5 wd_552 rfl rfl hd_X8_wished ⟨Nat.le_of_ble_eq_true rfl, Nat.le_of_ble_eq_true rfl⟩) hA hK hq [0, 1, 2, 3] [] [0, 1, 2] rfl rfl rfl (by decide) (by decide) (by decide) 0 8 rfl rfl rfl rfl hl.1 rfl (Nat.le_of_ble_eq_true rfl) dX8_tickOnce_18 ⟨Nat.zero_le _, Nat.zero_le _⟩ (fun r_6 u_5 H locs h_7 hq => ?_)
  obtain ⟨er_6, eu_5, w0_u_5, w9_u_5⟩ := h_7
  have hq : kAt G A s [(aM, .inr (8, [.ref aNw, .ref rM_kept, .ref rM_isKept, .ref rM_refused, .int u_5.1, .int u_5.2.1, .ref aVs, .int u_5.2.2.1, .ref aSg, .int u_5.2.2.2.1, .long u_5.2.2.2.2.1, .int M_way, .int M_wish, .long M_moreTick, .long M_moreForce, .int M_runTurns, .long M_runFirst, .long M_runLast, .ref rM_was, .long M_peak, .long M_beside, .int M_besideAt])), (aNw, .inl (cNw, 139, .inr (.inl fNw))), (aVs, .inl (cVs, 64, .inr (.inl u_5.2.2.2.2.2.1))), (aSg, .inl (cSg, 128, .inl u_5.2.2.2.2.2.2))] H locs := hq
  have w0_ := w0_u_5
  have w9_ := w9_u_5
  refine lv_aload_n hx hb dX8_tickOnce_21 rfl (lv_at hl 2 rfl) ?_
  refine kk_get (ci := 8) (v := .ref aNw) (C := RX8) (T := TX8) (N := 22) hx hb hts iX8 hown hK hq 0 rfl rfl 0 (by decide) lk0_ rfl dX8_tickOnce_22 ?_
  refine lv_iconst (v := 2) hx hb dX8_tickOnce_25 (by decide) ?_
  refine kk_lald hx hb hK hq 1 0 rfl rfl 2 rfl (by decide) (by decide) dX8_tickOnce_26 ?_
  refine lv_lsub hx hb dX8_tickOnce_27 ?_
  refine lv_topl (fun x5_8 ex5_8 => ?_)
  refine lv_lstore (lv' := [(5, .long x5_8), (3, .long r_3), (1, .long x1_1), (0, .ref aM)]) hx hb dX8_tickOnce_28 hl (by decide) rfl (fun ls hl => ?_)
  refine lv_lload hx hb dX8_tickOnce_30 (lv_at hl 0 rfl) ?_
  refine lv_aload_n hx hb dX8_tickOnce_32 rfl (lv_at hl 3 rfl) ?_
  refine lv_iconst (v := 4) hx hb dX8_tickOnce_33 (by decide) ?_
  refine kk_Vl (As := [.int 4]) (rest := [.long x5_8]) (wr := [(aVs, .inl (cVs, 64, .inr (.inl u_5.2.2.2.2.2.1))), (aSg, .inl (cSg, 128, .inl u_5.2.2.2.2.2.2))]) ⟨hx, hb, hml, hown, hts⟩ (c_X8_of l G aM aNw rM_kept rM_isKept rM_refused aVs aSg rM_was cNw 4 u_5.1 u_5.2.1 u_5.2.2.1 u_5.2.2.2.1 u_5.2.2.2.2.1 M_way M_wish M_moreTick M_moreForce M_runTurns M_runFirst M_runLast M_peak M_beside M_besideAt fNw (by decide) (by decide)) (kk_cwV 1 hts hsb wd_163 wd_164 wd_165 wd_5 wd_166 rfl rfl hd_X8_of ⟨Nat.le_of_ble_eq_true rfl, Nat.le_of_ble_eq_true rfl⟩) hA hK hq [0, 1] [2, 3] [0] rfl rfl rfl (by decide) (by decide) (by decide) 0 8 rfl rfl rfl rfl hl.1 rfl (Nat.le_of_ble_eq_true rfl) dX8_tickOnce_34 ⟨Nat.zero_le _, Nat.zero_le _⟩ (fun r_10 u_9 H locs h_11 hq => ?_)
  have er_10 := h_11
  have hq : kAt G A s [(aVs, .inl (cVs, 64, .inr (.inl u_5.2.2.2.2.2.1))), (aSg, .inl (cSg, 128, .inl u_5.2.2.2.2.2.2)), (aM, .inr (8, [.ref aNw, .ref rM_kept, .ref rM_isKept, .ref rM_refused, .int u_5.1, .int u_5.2.1, .ref aVs, .int u_5.2.2.1, .ref aSg, .int u_5.2.2.2.1, .long u_5.2.2.2.2.1, .int M_way, .int M_wish, .long M_moreTick, .long M_moreForce, .int M_runTurns, .long M_runFirst, .long M_runLast, .ref rM_was, .long M_peak, .long M_beside, .int M_besideAt])), (aNw, .inl (cNw, 139, .inr (.inl fNw)))] H locs := hq
  have hr4 := er_10
  refine kk_join1 (fun (z0_13 : Int64) (H : Heap) (locs : List Loc) (ls : Array Slot) => z0_13 = (if r_10 < x5_8 then fX8_of 4 fNw else if x5_8 < -(fX8_of 4 fNw) then -(fX8_of 4 fNw) else x5_8) ∧ lv_has ls 16 [(5, .long x5_8), (3, .long r_3), (1, .long x1_1), (0, .ref aM)] ∧ kAt G A s [(aVs, .inl (cVs, 64, .inr (.inl u_5.2.2.2.2.2.1))), (aSg, .inl (cSg, 128, .inl u_5.2.2.2.2.2.2)), (aM, .inr (8, [.ref aNw, .ref rM_kept, .ref rM_isKept, .ref rM_refused, .int u_5.1, .int u_5.2.1, .ref aVs, .int u_5.2.2.1, .ref aSg, .int u_5.2.2.2.1, .long u_5.2.2.2.2.1, .int M_way, .int M_wish, .long M_moreTick, .long M_moreForce, .int M_runTurns, .long M_runFirst, .long M_runLast, .ref rM_was, .long M_peak, .long M_beside, .int M_besideAt])), (aNw, .inl (cNw, 139, .inr (.inl fNw)))] H locs) 72 (fun z0_13 => [.long z0_13]) (fun z0_13 H locs ls hv => ?_) (fun J_14 => ?_)
  · skip
    obtain ⟨ez0_13, hl, hq⟩ := hv
    have hst := steps_ok hh w0_ w9_ wn.2.2.2.2.2.2.1 hr4 (by assumption) ez0_13
    refine lv_lstore (lv' := [(5, .long z0_13), (3, .long r_3), (1, .long x1_1), (0, .ref aM)]) hx hb dX8_tickOnce_72 hl (by decide) rfl (fun ls hl => ?_)
    refine lv_aload_n hx hb dX8_tickOnce_74 rfl (lv_at hl 3 rfl) ?_
    refine kk_Vl (As := []) (rest := []) (wr := [(aVs, .inl (cVs, 64, .inr (.inl u_5.2.2.2.2.2.1))), (aSg, .inl (cSg, 128, .inl u_5.2.2.2.2.2.2))]) ⟨hx, hb, hml, hown, hts⟩ (c_X8_lengthNow l G aM aNw rM_kept rM_isKept rM_refused aVs aSg rM_was cNw u_5.1 u_5.2.1 u_5.2.2.1 u_5.2.2.2.1 u_5.2.2.2.2.1 M_way M_wish M_moreTick M_moreForce M_runTurns M_runFirst M_runLast M_peak M_beside M_besideAt fNw) (kk_cwV 0 hts hsb wd_556 wd_557 wd_558 wd_5 wd_559 rfl rfl hd_X8_lengthNow ⟨Nat.le_of_ble_eq_true rfl, Nat.le_of_ble_eq_true rfl⟩) hA hK hq [2, 3] [0, 1] [0] rfl rfl rfl (by decide) (by decide) (by decide) 0 8 rfl rfl rfl rfl hl.1 rfl (Nat.le_of_ble_eq_true rfl) dX8_tickOnce_75 ⟨Nat.zero_le _, Nat.zero_le _⟩ (fun r_16 u_15 H locs h_17 hq => ?_)
    have er_16 := h_17
    have hq : kAt G A s [(aVs, .inl (cVs, 64, .inr (.inl u_5.2.2.2.2.2.1))), (aSg, .inl (cSg, 128, .inl u_5.2.2.2.2.2.2)), (aM, .inr (8, [.ref aNw, .ref rM_kept, .ref rM_isKept, .ref rM_refused, .int u_5.1, .int u_5.2.1, .ref aVs, .int u_5.2.2.1, .ref aSg, .int u_5.2.2.2.1, .long u_5.2.2.2.2.1, .int M_way, .int M_wish, .long M_moreTick, .long M_moreForce, .int M_runTurns, .long M_runFirst, .long M_runLast, .ref rM_was, .long M_peak, .long M_beside, .int M_besideAt])), (aNw, .inl (cNw, 139, .inr (.inl fNw)))] H locs := hq
    refine lv_lstore (lv' := [(7, .long r_16), (5, .long z0_13), (3, .long r_3), (1, .long x1_1), (0, .ref aM)]) hx hb dX8_tickOnce_78 hl (by decide) rfl (fun ls hl => ?_)
    refine lv_aload_n hx hb dX8_tickOnce_80 rfl (lv_at hl 4 rfl) ?_
    refine kk_get (ci := 8) (v := .ref aNw) (C := RX8) (T := TX8) (N := 22) hx hb hts iX8 hown hK hq 2 rfl rfl 0 (by decide) lk0_ rfl dX8_tickOnce_81 ?_
    refine lv_iconst (v := 2) hx hb dX8_tickOnce_84 (by decide) ?_
    refine lv_dup2_11 hx hb dX8_tickOnce_85 rfl rfl ?_
    refine kk_lald hx hb hK hq 3 0 rfl rfl 2 rfl (by decide) (by decide) dX8_tickOnce_86 ?_
    refine lv_lload hx hb dX8_tickOnce_87 (lv_at hl 1 rfl) ?_
    refine lv_ladd hx hb dX8_tickOnce_89 ?_
    refine lv_topl (fun w_18 ew_18 => ?_)
    refine kk_last (ws' := [(aVs, .inl (cVs, 64, .inr (.inl u_5.2.2.2.2.2.1))), (aSg, .inl (cSg, 128, .inl u_5.2.2.2.2.2.2)), (aM, .inr (8, [.ref aNw, .ref rM_kept, .ref rM_isKept, .ref rM_refused, .int u_5.1, .int u_5.2.1, .ref aVs, .int u_5.2.2.1, .ref aSg, .int u_5.2.2.2.1, .long u_5.2.2.2.2.1, .int M_way, .int M_wish, .long M_moreTick, .long M_moreForce, .int M_runTurns, .long M_runFirst, .long M_runLast, .ref rM_was, .long M_peak, .long M_beside, .int M_besideAt])), (aNw, .inl (cNw, 139, .inr (.inl (vp_updL fNw 2 w_18))))]) hx hb hK hq 3 0 rfl rfl 2 rfl (by decide) (by decide) dX8_tickOnce_90 rfl (fun H locs hq => ?_)
    obtain ⟨fNw_19, efNw_19⟩ : ∃ z : Nat → Int64, z = vp_updL fNw 2 w_18 := ⟨_, rfl⟩
    rw [← efNw_19] at hq
    have agfNw_19 := AG_2 efNw_19 (by first | exact hst | (subst_vars; exact hst))
    refine lv_aload_n hx hb dX8_tickOnce_91 rfl (lv_at hl 4 rfl) ?_
    refine kk_Vl (As := []) (rest := []) (wr := [(aVs, .inl (cVs, 64, .inr (.inl u_5.2.2.2.2.2.1))), (aSg, .inl (cSg, 128, .inl u_5.2.2.2.2.2.2))]) ⟨hx, hb, hml, hown, hts⟩ (c_X8_lengthNow l G aM aNw rM_kept rM_isKept rM_refused aVs aSg rM_was cNw u_5.1 u_5.2.1 u_5.2.2.1 u_5.2.2.2.1 u_5.2.2.2.2.1 M_way M_wish M_moreTick M_moreForce M_runTurns M_runFirst M_runLast M_peak M_beside M_besideAt fNw_19) (kk_cwV 0 hts hsb wd_556 wd_557 wd_558 wd_5 wd_559 rfl rfl hd_X8_lengthNow ⟨Nat.le_of_ble_eq_true rfl, Nat.le_of_ble_eq_true rfl⟩) hA hK hq [2, 3] [0, 1] [0] rfl rfl rfl (by decide) (by decide) (by decide) 0 8 rfl rfl rfl rfl hl.1 rfl (Nat.le_of_ble_eq_true rfl) dX8_tickOnce_92 ⟨Nat.zero_le _, Nat.zero_le _⟩ (fun r_21 u_20 H locs h_22 hq => ?_)
    have er_21 := h_22
    have hq : kAt G A s [(aVs, .inl (cVs, 64, .inr (.inl u_5.2.2.2.2.2.1))), (aSg, .inl (cSg, 128, .inl u_5.2.2.2.2.2.2)), (aM, .inr (8, [.ref aNw, .ref rM_kept, .ref rM_isKept, .ref rM_refused, .int u_5.1, .int u_5.2.1, .ref aVs, .int u_5.2.2.1, .ref aSg, .int u_5.2.2.2.1, .long u_5.2.2.2.2.1, .int M_way, .int M_wish, .long M_moreTick, .long M_moreForce, .int M_runTurns, .long M_runFirst, .long M_runLast, .ref rM_was, .long M_peak, .long M_beside, .int M_besideAt])), (aNw, .inl (cNw, 139, .inr (.inl fNw_19)))] H locs := hq
    have hn := len_ok wn (by assumption) er_21
    have hn0 := ne_of14 hn.1
    have hnn := sq_ne hn.1 hn.2
    refine lv_lstore (lv' := [(9, .long r_21), (7, .long r_16), (5, .long z0_13), (3, .long r_3), (1, .long x1_1), (0, .ref aM)]) hx hb dX8_tickOnce_95 hl (by decide) rfl (fun ls hl => ?_)
    refine lv_aload_n hx hb dX8_tickOnce_97 rfl (lv_at hl 5 rfl) ?_
    refine kk_get (ci := 8) (v := .ref aNw) (C := RX8) (T := TX8) (N := 22) hx hb hts iX8 hown hK hq 2 rfl rfl 0 (by decide) lk0_ rfl dX8_tickOnce_98 ?_
    refine lv_iconst (v := 1) hx hb dX8_tickOnce_101 (by decide) ?_
    refine lv_aload_n hx hb dX8_tickOnce_102 rfl (lv_at hl 5 rfl) ?_
    refine kk_get (ci := 8) (v := .ref aNw) (C := RX8) (T := TX8) (N := 22) hx hb hts iX8 hown hK hq 2 rfl rfl 0 (by decide) lk0_ rfl dX8_tickOnce_103 ?_
    refine lv_iconst (v := 1) hx hb dX8_tickOnce_106 (by decide) ?_
    refine kk_lald hx hb hK hq 3 0 rfl rfl 1 rfl (by decide) (by decide) dX8_tickOnce_107 ?_
    refine W.eq (g2 := F0 m 108 ls [.long (fNw 1), .int 1, .ref aNw]) (by subst efNw_19; rfl) ?_
    refine lv_lload hx hb dX8_tickOnce_108 (lv_at hl 1 rfl) ?_
    refine lv_lmul hx hb dX8_tickOnce_110 ?_
    refine lv_lload hx hb dX8_tickOnce_111 (lv_at hl 1 rfl) ?_
    refine lv_lmul hx hb dX8_tickOnce_113 ?_
    refine lv_lload hx hb dX8_tickOnce_114 (lv_at hl 0 rfl) ?_
    refine lv_lload hx hb dX8_tickOnce_116 (lv_at hl 0 rfl) ?_
    refine lv_lmul hx hb dX8_tickOnce_118 ?_
    refine lv_ldiv hx hb dX8_tickOnce_119 hnn ?_
    refine lv_aload_n hx hb dX8_tickOnce_120 rfl (lv_at hl 5 rfl) ?_
    refine lv_iconst (v := 5) hx hb dX8_tickOnce_121 (by decide) ?_
    refine kk_Vl (As := [.int 5]) (rest := [.long ((((fNw 1) * r_16) * r_16) / (r_21 * r_21)), .int 1, .ref aNw]) (wr := [(aVs, .inl (cVs, 64, .inr (.inl u_5.2.2.2.2.2.1))), (aSg, .inl (cSg, 128, .inl u_5.2.2.2.2.2.2))]) ⟨hx, hb, hml, hown, hts⟩ (c_X8_of l G aM aNw rM_kept rM_isKept rM_refused aVs aSg rM_was cNw 5 u_5.1 u_5.2.1 u_5.2.2.1 u_5.2.2.2.1 u_5.2.2.2.2.1 M_way M_wish M_moreTick M_moreForce M_runTurns M_runFirst M_runLast M_peak M_beside M_besideAt fNw_19 (by decide) (by decide)) (kk_cwV 1 hts hsb wd_163 wd_164 wd_165 wd_5 wd_166 rfl rfl hd_X8_of ⟨Nat.le_of_ble_eq_true rfl, Nat.le_of_ble_eq_true rfl⟩) hA hK hq [2, 3] [0, 1] [0] rfl rfl rfl (by decide) (by decide) (by decide) 0 8 rfl rfl rfl rfl hl.1 rfl (Nat.le_of_ble_eq_true rfl) dX8_tickOnce_122 ⟨Nat.zero_le _, Nat.zero_le _⟩ (fun r_24 u_23 H locs h_25 hq => ?_)
    have er_24 := h_25
    have hq : kAt G A s [(aVs, .inl (cVs, 64, .inr (.inl u_5.2.2.2.2.2.1))), (aSg, .inl (cSg, 128, .inl u_5.2.2.2.2.2.2)), (aM, .inr (8, [.ref aNw, .ref rM_kept, .ref rM_isKept, .ref rM_refused, .int u_5.1, .int u_5.2.1, .ref aVs, .int u_5.2.2.1, .ref aSg, .int u_5.2.2.2.1, .long u_5.2.2.2.2.1, .int M_way, .int M_wish, .long M_moreTick, .long M_moreForce, .int M_runTurns, .long M_runFirst, .long M_runLast, .ref rM_was, .long M_peak, .long M_beside, .int M_besideAt])), (aNw, .inl (cNw, 139, .inr (.inl fNw_19)))] H locs := hq
    refine lv_ldc2 hx hb hown lk1_ dX8_tickOnce_125 ?_
    refine lv_lmul hx hb dX8_tickOnce_128 ?_
    refine lv_lload hx hb dX8_tickOnce_129 (lv_at hl 2 rfl) ?_
    refine lv_lmul hx hb dX8_tickOnce_131 ?_
    refine lv_ladd hx hb dX8_tickOnce_132 ?_
    refine lv_topl (fun w_26 ew_26 => ?_)
    refine kk_last (ws' := [(aVs, .inl (cVs, 64, .inr (.inl u_5.2.2.2.2.2.1))), (aSg, .inl (cSg, 128, .inl u_5.2.2.2.2.2.2)), (aM, .inr (8, [.ref aNw, .ref rM_kept, .ref rM_isKept, .ref rM_refused, .int u_5.1, .int u_5.2.1, .ref aVs, .int u_5.2.2.1, .ref aSg, .int u_5.2.2.2.1, .long u_5.2.2.2.2.1, .int M_way, .int M_wish, .long M_moreTick, .long M_moreForce, .int M_runTurns, .long M_runFirst, .long M_runLast, .ref rM_was, .long M_peak, .long M_beside, .int M_besideAt])), (aNw, .inl (cNw, 139, .inr (.inl (vp_updL fNw_19 1 w_26))))]) hx hb hK hq 3 0 rfl rfl 1 rfl (by decide) (by decide) dX8_tickOnce_133 rfl (fun H locs hq => ?_)
    obtain ⟨fNw_27, efNw_27⟩ : ∃ z : Nat → Int64, z = vp_updL fNw_19 1 w_26 := ⟨_, rfl⟩
    rw [← efNw_27] at hq
    have agfNw_27 := AG_u efNw_27 (by assumption) (by decide)
    refine lv_aload_n hx hb dX8_tickOnce_134 rfl (lv_at hl 5 rfl) ?_
    refine kk_get (ci := 8) (v := .ref aNw) (C := RX8) (T := TX8) (N := 22) hx hb hts iX8 hown hK hq 2 rfl rfl 0 (by decide) lk0_ rfl dX8_tickOnce_135 ?_
    refine lv_bipush (v := 7) hx hb dX8_tickOnce_138 (by decide) ?_
    refine lv_dup2_11 hx hb dX8_tickOnce_140 rfl rfl ?_
    refine kk_lald hx hb hK hq 3 0 rfl rfl 7 rfl (by decide) (by decide) dX8_tickOnce_141 ?_
    refine W.eq (g2 := F0 m 142 ls [.long (fNw 7), .int 7, .ref aNw]) (by subst efNw_27 efNw_19; rfl) ?_
    refine lv_lload hx hb dX8_tickOnce_142 (lv_at hl 2 rfl) ?_
    refine kk_Sl (As := [.long z0_13]) (rest := [.long (fNw 7), .int 7, .ref aNw]) (wr := [(aVs, .inl (cVs, 64, .inr (.inl u_5.2.2.2.2.2.1))), (aSg, .inl (cSg, 128, .inl u_5.2.2.2.2.2.2)), (aM, .inr (8, [.ref aNw, .ref rM_kept, .ref rM_isKept, .ref rM_refused, .int u_5.1, .int u_5.2.1, .ref aVs, .int u_5.2.2.1, .ref aSg, .int u_5.2.2.2.1, .long u_5.2.2.2.2.1, .int M_way, .int M_wish, .long M_moreTick, .long M_moreForce, .int M_runTurns, .long M_runFirst, .long M_runLast, .ref rM_was, .long M_peak, .long M_beside, .int M_besideAt])), (aNw, .inl (cNw, 139, .inr (.inl fNw_27)))]) ⟨hx, hb, hml, hown, hts⟩ (c_X8_size l G z0_13) (kk_cwS 1 hts hsb wd_401 wd_402 wd_5 wd_403 rfl rfl hd_X8_size ⟨Nat.le_of_ble_eq_true rfl, Nat.le_of_ble_eq_true rfl⟩) hA hK hq [] [0, 1, 2, 3] [] rfl rfl rfl (by decide) (by decide) (by decide) rfl hl.1 rfl (Nat.le_of_ble_eq_true rfl) dX8_tickOnce_144 ⟨Nat.zero_le _, Nat.zero_le _⟩ (fun r_29 u_28 H locs h_30 hq => ?_)
    have er_29 := h_30
    have hq : kAt G A s [(aVs, .inl (cVs, 64, .inr (.inl u_5.2.2.2.2.2.1))), (aSg, .inl (cSg, 128, .inl u_5.2.2.2.2.2.2)), (aM, .inr (8, [.ref aNw, .ref rM_kept, .ref rM_isKept, .ref rM_refused, .int u_5.1, .int u_5.2.1, .ref aVs, .int u_5.2.2.1, .ref aSg, .int u_5.2.2.2.1, .long u_5.2.2.2.2.1, .int M_way, .int M_wish, .long M_moreTick, .long M_moreForce, .int M_runTurns, .long M_runFirst, .long M_runLast, .ref rM_was, .long M_peak, .long M_beside, .int M_besideAt])), (aNw, .inl (cNw, 139, .inr (.inl fNw_27)))] H locs := hq
    refine lv_ldc2 hx hb hown lk2_ dX8_tickOnce_147 ?_
    refine lv_lload_n hx hb dX8_tickOnce_150 rfl (lv_at hl 3 rfl) ?_
    refine lv_ldc2 hx hb hown lk3_ dX8_tickOnce_151 ?_
    refine lv_ldiv hx hb dX8_tickOnce_154 (by decide) ?_
    refine lv_ladd hx hb dX8_tickOnce_155 ?_
    refine lv_lmul hx hb dX8_tickOnce_156 ?_
    refine lv_ladd hx hb dX8_tickOnce_157 ?_
    refine lv_topl (fun w_31 ew_31 => ?_)
    refine kk_last (ws' := [(aVs, .inl (cVs, 64, .inr (.inl u_5.2.2.2.2.2.1))), (aSg, .inl (cSg, 128, .inl u_5.2.2.2.2.2.2)), (aM, .inr (8, [.ref aNw, .ref rM_kept, .ref rM_isKept, .ref rM_refused, .int u_5.1, .int u_5.2.1, .ref aVs, .int u_5.2.2.1, .ref aSg, .int u_5.2.2.2.1, .long u_5.2.2.2.2.1, .int M_way, .int M_wish, .long M_moreTick, .long M_moreForce, .int M_runTurns, .long M_runFirst, .long M_runLast, .ref rM_was, .long M_peak, .long M_beside, .int M_besideAt])), (aNw, .inl (cNw, 139, .inr (.inl (vp_updL fNw_27 7 w_31))))]) hx hb hK hq 3 0 rfl rfl 7 rfl (by decide) (by decide) dX8_tickOnce_158 rfl (fun H locs hq => ?_)
    obtain ⟨fNw_32, efNw_32⟩ : ∃ z : Nat → Int64, z = vp_updL fNw_27 7 w_31 := ⟨_, rfl⟩
    rw [← efNw_32] at hq
    have agfNw_32 := AG_u efNw_32 (by assumption) (by decide)
    refine lv_aload_n hx hb dX8_tickOnce_159 rfl (lv_at hl 5 rfl) ?_
    refine kk_get (ci := 8) (v := .ref aNw) (C := RX8) (T := TX8) (N := 22) hx hb hts iX8 hown hK hq 2 rfl rfl 0 (by decide) lk0_ rfl dX8_tickOnce_160 ?_
    refine lv_bipush (v := 7) hx hb dX8_tickOnce_163 (by decide) ?_
    refine lv_aload_n hx hb dX8_tickOnce_165 rfl (lv_at hl 5 rfl) ?_
    refine kk_get (ci := 8) (v := .ref aNw) (C := RX8) (T := TX8) (N := 22) hx hb hts iX8 hown hK hq 2 rfl rfl 0 (by decide) lk0_ rfl dX8_tickOnce_166 ?_
    refine lv_bipush (v := 7) hx hb dX8_tickOnce_169 (by decide) ?_
    refine kk_lald hx hb hK hq 3 0 rfl rfl 7 rfl (by decide) (by decide) dX8_tickOnce_171 ?_
    refine W.eq (g2 := F0 m 172 ls [.long w_31, .int 7, .ref aNw]) (by subst efNw_32; rfl) ?_
    refine lv_ldc2 hx hb hown lk4_ dX8_tickOnce_172 ?_
    refine kk_join1 (fun (z0_34 : Int64) (H : Heap) (locs : List Loc) (ls : Array Slot) => z0_34 = (if 1000000000 < w_31 then 1000000000 else w_31) ∧ lv_has ls 16 [(9, .long r_21), (7, .long r_16), (5, .long z0_13), (3, .long r_3), (1, .long x1_1), (0, .ref aM)] ∧ kAt G A s [(aVs, .inl (cVs, 64, .inr (.inl u_5.2.2.2.2.2.1))), (aSg, .inl (cSg, 128, .inl u_5.2.2.2.2.2.2)), (aM, .inr (8, [.ref aNw, .ref rM_kept, .ref rM_isKept, .ref rM_refused, .int u_5.1, .int u_5.2.1, .ref aVs, .int u_5.2.2.1, .ref aSg, .int u_5.2.2.2.1, .long u_5.2.2.2.2.1, .int M_way, .int M_wish, .long M_moreTick, .long M_moreForce, .int M_runTurns, .long M_runFirst, .long M_runLast, .ref rM_was, .long M_peak, .long M_beside, .int M_besideAt])), (aNw, .inl (cNw, 139, .inr (.inl fNw_32)))] H locs) 192 (fun z0_34 => [.long z0_34, .int 7, .ref aNw]) (fun z0_34 H locs ls hv => ?_) (fun J_35 => ?_)
    · skip
      obtain ⟨ez0_34, hl, hq⟩ := hv
      refine kk_last (ws' := [(aVs, .inl (cVs, 64, .inr (.inl u_5.2.2.2.2.2.1))), (aSg, .inl (cSg, 128, .inl u_5.2.2.2.2.2.2)), (aM, .inr (8, [.ref aNw, .ref rM_kept, .ref rM_isKept, .ref rM_refused, .int u_5.1, .int u_5.2.1, .ref aVs, .int u_5.2.2.1, .ref aSg, .int u_5.2.2.2.1, .long u_5.2.2.2.2.1, .int M_way, .int M_wish, .long M_moreTick, .long M_moreForce, .int M_runTurns, .long M_runFirst, .long M_runLast, .ref rM_was, .long M_peak, .long M_beside, .int M_besideAt])), (aNw, .inl (cNw, 139, .inr (.inl (vp_updL fNw_32 7 z0_34))))]) hx hb hK hq 3 0 rfl rfl 7 rfl (by decide) (by decide) dX8_tickOnce_192 rfl (fun H locs hq => ?_)
      obtain ⟨fNw_36, efNw_36⟩ : ∃ z : Nat → Int64, z = vp_updL fNw_32 7 z0_34 := ⟨_, rfl⟩
      rw [← efNw_36] at hq
      have agfNw_36 := AG_u efNw_36 (by assumption) (by decide)
      refine lv_iconst (v := 0) hx hb dX8_tickOnce_193 (by decide) ?_
      refine lv_istore (lv' := [(11, .int 0), (9, .long r_21), (7, .long r_16), (5, .long z0_13), (3, .long r_3), (1, .long x1_1), (0, .ref aM)]) hx hb dX8_tickOnce_194 hl (by decide) rfl (fun ls hl => ?_)
      refine kk_loop2 (fun N196 (k : Int32) (nf : Nat → Int64) (H : Heap) (locs : List Loc) (ls : Array Slot) => lpX8_tickOnce_196 (9) 0 fNw_36 = lpX8_tickOnce_196 N196 k nf ∧ (0 ≤ k.toInt) ∧ (k.toInt ≤ 8) ∧ (k.toInt + N196 = 9) ∧ (AG_ fNw nf) ∧ lv_has ls 16 [(11, .int k), (9, .long r_21), (7, .long r_16), (5, .long z0_13), (3, .long r_3), (1, .long x1_1), (0, .ref aM)] ∧ kAt G A s [(aVs, .inl (cVs, 64, .inr (.inl u_5.2.2.2.2.2.1))), (aSg, .inl (cSg, 128, .inl u_5.2.2.2.2.2.2)), (aM, .inr (8, [.ref aNw, .ref rM_kept, .ref rM_isKept, .ref rM_refused, .int u_5.1, .int u_5.2.1, .ref aVs, .int u_5.2.2.1, .ref aSg, .int u_5.2.2.2.1, .long u_5.2.2.2.2.1, .int M_way, .int M_wish, .long M_moreTick, .long M_moreForce, .int M_runTurns, .long M_runFirst, .long M_runLast, .ref rM_was, .long M_peak, .long M_beside, .int M_besideAt])), (aNw, .inl (cNw, 139, .inr (.inl nf)))] H locs) 196 (fun k nf => []) (fun k nf H locs ls hv => ?_) (fun N196 k nf H locs ls ih196 hv => ?_) (9) 0 fNw_36 _ _ _ ⟨rfl, (by decide), (by decide), (by decide), (by assumption), lv_sub hl [0, 1, 2, 3, 4, 5, 6] rfl, hq⟩
      · skip
        obtain ⟨hrel196, k0, k8, hN, ag, hl, hq⟩ := hv
        omega
      · skip
        obtain ⟨hrel196, k0, k8, hN, ag, hl, hq⟩ := hv
        refine lv_iload hx hb dX8_tickOnce_196 (lv_at hl 0 rfl) ?_
        refine lv_aload_n hx hb dX8_tickOnce_198 rfl (lv_at hl 6 rfl) ?_
        refine kk_Vi (As := []) (rest := [.int k]) (wr := [(aVs, .inl (cVs, 64, .inr (.inl u_5.2.2.2.2.2.1))), (aSg, .inl (cSg, 128, .inl u_5.2.2.2.2.2.2))]) ⟨hx, hb, hml, hown, hts⟩ (c_X8_pushMany l G aM aNw rM_kept rM_isKept rM_refused aVs aSg rM_was cNw u_5.1 u_5.2.1 u_5.2.2.1 u_5.2.2.2.1 u_5.2.2.2.2.1 M_way M_wish M_moreTick M_moreForce M_runTurns M_runFirst M_runLast M_peak M_beside M_besideAt nf) (kk_cwV 0 hts hsb wd_351 wd_352 wd_353 wd_5 wd_354 rfl rfl hd_X8_pushMany ⟨Nat.le_of_ble_eq_true rfl, Nat.le_of_ble_eq_true rfl⟩) hA hK hq [2, 3] [0, 1] [0] rfl rfl rfl (by decide) (by decide) (by decide) 0 8 rfl rfl rfl rfl hl.1 rfl (Nat.le_of_ble_eq_true rfl) dX8_tickOnce_199 ⟨Nat.zero_le _, Nat.zero_le _⟩ (fun r_38 u_37 H locs h_39 hq => ?_)
        have er_38 := h_39
        have hq : kAt G A s [(aVs, .inl (cVs, 64, .inr (.inl u_5.2.2.2.2.2.1))), (aSg, .inl (cSg, 128, .inl u_5.2.2.2.2.2.2)), (aM, .inr (8, [.ref aNw, .ref rM_kept, .ref rM_isKept, .ref rM_refused, .int u_5.1, .int u_5.2.1, .ref aVs, .int u_5.2.2.1, .ref aSg, .int u_5.2.2.2.1, .long u_5.2.2.2.2.1, .int M_way, .int M_wish, .long M_moreTick, .long M_moreForce, .int M_runTurns, .long M_runFirst, .long M_runLast, .ref rM_was, .long M_peak, .long M_beside, .int M_besideAt])), (aNw, .inl (cNw, 139, .inr (.inl nf)))] H locs := hq
        have hpm := er_38
        refine lv_icmp_ge (tgt := 258) hx hb dX8_tickOnce_202 (by decide) (fun c_40 => ?_) (fun c_40 => ?_)
        · skip
          have hst_42 : lpX8_tickOnce_196 (N196 + 1) k nf = ((k, nf) : Int32 × (Nat → Int64)) := by
            subst er_38
            exact (if_pos c_40).trans (rfl)
          have hx_41 : ((k, nf) : Int32 × (Nat → Int64)) = lpX8_tickOnce_196 (9) 0 fNw_36 := (hrel196.trans (hst_42)).symm
          obtain ⟨z_43, gz_43⟩ : ∃ z : Int32 × (Nat → Int64), z = (k, nf) := ⟨_, rfl⟩
          have ez_43 : z_43 = lpX8_tickOnce_196 (9) 0 fNw_36 := gz_43.trans hx_41
          have hl : lv_has ls 16 [(11, .int z_43.1), (9, .long r_21), (7, .long r_16), (5, .long z0_13), (3, .long r_3), (1, .long x1_1), (0, .ref aM)] := by subst gz_43; exact hl
          have hq : kAt G A s [(aVs, .inl (cVs, 64, .inr (.inl u_5.2.2.2.2.2.1))), (aSg, .inl (cSg, 128, .inl u_5.2.2.2.2.2.2)), (aM, .inr (8, [.ref aNw, .ref rM_kept, .ref rM_isKept, .ref rM_refused, .int u_5.1, .int u_5.2.1, .ref aVs, .int u_5.2.2.1, .ref aSg, .int u_5.2.2.2.1, .long u_5.2.2.2.2.1, .int M_way, .int M_wish, .long M_moreTick, .long M_moreForce, .int M_runTurns, .long M_runFirst, .long M_runLast, .ref rM_was, .long M_peak, .long M_beside, .int M_besideAt])), (aNw, .inl (cNw, 139, .inr (.inl z_43.2)))] H locs := by subst gz_43; exact hq
          have agz : AG_ fNw z_43.2 := by subst gz_43; exact ag
          refine lv_aload_n hx hb dX8_tickOnce_258 rfl (lv_at hl 6 rfl) ?_
          refine kk_get (ci := 8) (v := .ref aNw) (C := RX8) (T := TX8) (N := 22) hx hb hts iX8 hown hK hq 2 rfl rfl 0 (by decide) lk0_ rfl dX8_tickOnce_259 ?_
          refine lv_iconst (v := 1) hx hb dX8_tickOnce_262 (by decide) ?_
          refine lv_dup2_11 hx hb dX8_tickOnce_263 rfl rfl ?_
          refine kk_lald hx hb hK hq 3 0 rfl rfl 1 rfl (by decide) (by decide) dX8_tickOnce_264 ?_
          refine lv_aload_n hx hb dX8_tickOnce_265 rfl (lv_at hl 6 rfl) ?_
          refine kk_get (ci := 8) (v := .ref aNw) (C := RX8) (T := TX8) (N := 22) hx hb hts iX8 hown hK hq 2 rfl rfl 0 (by decide) lk0_ rfl dX8_tickOnce_266 ?_
          refine lv_iconst (v := 5) hx hb dX8_tickOnce_269 (by decide) ?_
          refine kk_lald hx hb hK hq 3 0 rfl rfl 5 rfl (by decide) (by decide) dX8_tickOnce_270 ?_
          refine lv_aload_n hx hb dX8_tickOnce_271 rfl (lv_at hl 6 rfl) ?_
          refine kk_get (ci := 8) (v := .long M_moreTick) (C := RX8) (T := TX8) (N := 22) hx hb hts iX8 hown hK hq 2 rfl rfl 13 (by decide) lk5_ rfl dX8_tickOnce_272 ?_
          refine kk_join1 (fun (z0_45 : Int64) (H : Heap) (locs : List Loc) (ls : Array Slot) => z0_45 = (if z_43.2 5 = M_moreTick then M_moreForce else 0) ∧ lv_has ls 16 [(11, .int z_43.1), (9, .long r_21), (7, .long r_16), (5, .long z0_13), (3, .long r_3), (1, .long x1_1), (0, .ref aM)] ∧ kAt G A s [(aVs, .inl (cVs, 64, .inr (.inl u_5.2.2.2.2.2.1))), (aSg, .inl (cSg, 128, .inl u_5.2.2.2.2.2.2)), (aM, .inr (8, [.ref aNw, .ref rM_kept, .ref rM_isKept, .ref rM_refused, .int u_5.1, .int u_5.2.1, .ref aVs, .int u_5.2.2.1, .ref aSg, .int u_5.2.2.2.1, .long u_5.2.2.2.2.1, .int M_way, .int M_wish, .long M_moreTick, .long M_moreForce, .int M_runTurns, .long M_runFirst, .long M_runLast, .ref rM_was, .long M_peak, .long M_beside, .int M_besideAt])), (aNw, .inl (cNw, 139, .inr (.inl z_43.2)))] H locs) 287 (fun z0_45 => [.long z0_45, .long (z_43.2 1), .int 1, .ref aNw]) (fun z0_45 H locs ls hv => ?_) (fun J_46 => ?_)
          · skip
            obtain ⟨ez0_45, hl, hq⟩ := hv
            refine lv_ladd hx hb dX8_tickOnce_287 ?_
            refine lv_topl (fun w_47 ew_47 => ?_)
            refine kk_last (ws' := [(aVs, .inl (cVs, 64, .inr (.inl u_5.2.2.2.2.2.1))), (aSg, .inl (cSg, 128, .inl u_5.2.2.2.2.2.2)), (aM, .inr (8, [.ref aNw, .ref rM_kept, .ref rM_isKept, .ref rM_refused, .int u_5.1, .int u_5.2.1, .ref aVs, .int u_5.2.2.1, .ref aSg, .int u_5.2.2.2.1, .long u_5.2.2.2.2.1, .int M_way, .int M_wish, .long M_moreTick, .long M_moreForce, .int M_runTurns, .long M_runFirst, .long M_runLast, .ref rM_was, .long M_peak, .long M_beside, .int M_besideAt])), (aNw, .inl (cNw, 139, .inr (.inl (vp_updL z_43.2 1 w_47))))]) hx hb hK hq 3 0 rfl rfl 1 rfl (by decide) (by decide) dX8_tickOnce_288 rfl (fun H locs hq => ?_)
            obtain ⟨fNw_48, efNw_48⟩ : ∃ z : Nat → Int64, z = vp_updL z_43.2 1 w_47 := ⟨_, rfl⟩
            rw [← efNw_48] at hq
            have agfNw_48 := AG_u efNw_48 (by assumption) (by decide)
            refine lv_aload_n hx hb dX8_tickOnce_289 rfl (lv_at hl 6 rfl) ?_
            refine lv_bipush (v := 6) hx hb dX8_tickOnce_290 (by decide) ?_
            refine kk_Vl (As := [.int 6]) (rest := []) (wr := [(aVs, .inl (cVs, 64, .inr (.inl u_5.2.2.2.2.2.1))), (aSg, .inl (cSg, 128, .inl u_5.2.2.2.2.2.2))]) ⟨hx, hb, hml, hown, hts⟩ (c_X8_of l G aM aNw rM_kept rM_isKept rM_refused aVs aSg rM_was cNw 6 u_5.1 u_5.2.1 u_5.2.2.1 u_5.2.2.2.1 u_5.2.2.2.2.1 M_way M_wish M_moreTick M_moreForce M_runTurns M_runFirst M_runLast M_peak M_beside M_besideAt fNw_48 (by decide) (by decide)) (kk_cwV 1 hts hsb wd_163 wd_164 wd_165 wd_5 wd_166 rfl rfl hd_X8_of ⟨Nat.le_of_ble_eq_true rfl, Nat.le_of_ble_eq_true rfl⟩) hA hK hq [2, 3] [0, 1] [0] rfl rfl rfl (by decide) (by decide) (by decide) 0 8 rfl rfl rfl rfl hl.1 rfl (Nat.le_of_ble_eq_true rfl) dX8_tickOnce_292 ⟨Nat.zero_le _, Nat.zero_le _⟩ (fun r_50 u_49 H locs h_51 hq => ?_)
            have er_50 := h_51
            have hq : kAt G A s [(aVs, .inl (cVs, 64, .inr (.inl u_5.2.2.2.2.2.1))), (aSg, .inl (cSg, 128, .inl u_5.2.2.2.2.2.2)), (aM, .inr (8, [.ref aNw, .ref rM_kept, .ref rM_isKept, .ref rM_refused, .int u_5.1, .int u_5.2.1, .ref aVs, .int u_5.2.2.1, .ref aSg, .int u_5.2.2.2.1, .long u_5.2.2.2.2.1, .int M_way, .int M_wish, .long M_moreTick, .long M_moreForce, .int M_runTurns, .long M_runFirst, .long M_runLast, .ref rM_was, .long M_peak, .long M_beside, .int M_besideAt])), (aNw, .inl (cNw, 139, .inr (.inl fNw_48)))] H locs := hq
            refine lv_aload_n hx hb dX8_tickOnce_295 rfl (lv_at hl 6 rfl) ?_
            refine kk_get (ci := 8) (v := .ref aNw) (C := RX8) (T := TX8) (N := 22) hx hb hts iX8 hown hK hq 2 rfl rfl 0 (by decide) lk0_ rfl dX8_tickOnce_296 ?_
            refine lv_bipush (v := 10) hx hb dX8_tickOnce_299 (by decide) ?_
            refine kk_lald hx hb hK hq 3 0 rfl rfl 10 rfl (by decide) (by decide) dX8_tickOnce_301 ?_
            refine W.eq (g2 := F0 m 302 ls [.long (z_43.2 10), .long r_50]) (by subst efNw_48; rfl) ?_
            refine lv_aload_n hx hb dX8_tickOnce_302 rfl (lv_at hl 6 rfl) ?_
            refine kk_get (ci := 8) (v := .ref aNw) (C := RX8) (T := TX8) (N := 22) hx hb hts iX8 hown hK hq 2 rfl rfl 0 (by decide) lk0_ rfl dX8_tickOnce_303 ?_
            refine lv_iconst (v := 0) hx hb dX8_tickOnce_306 (by decide) ?_
            refine kk_lald hx hb hK hq 3 0 rfl rfl 0 rfl (by decide) (by decide) dX8_tickOnce_307 ?_
            refine W.eq (g2 := F0 m 308 ls [.long (z_43.2 0), .long (z_43.2 10), .long r_50]) (by subst efNw_48; rfl) ?_
            refine lv_lsub hx hb dX8_tickOnce_308 ?_
            refine lv_lmul hx hb dX8_tickOnce_309 ?_
            refine lv_ldc2 hx hb hown lk7_ dX8_tickOnce_310 ?_
            refine lv_ldiv hx hb dX8_tickOnce_313 (by decide) ?_
            refine lv_topl (fun x11_52 ex11_52 => ?_)
            refine lv_lstore (lv' := [(11, .long x11_52), (9, .long r_21), (7, .long r_16), (5, .long z0_13), (3, .long r_3), (1, .long x1_1), (0, .ref aM)]) hx hb dX8_tickOnce_314 hl (by decide) rfl (fun ls hl => ?_)
            refine lv_aload_n hx hb dX8_tickOnce_316 rfl (lv_at hl 6 rfl) ?_
            refine kk_get (ci := 8) (v := .ref aNw) (C := RX8) (T := TX8) (N := 22) hx hb hts iX8 hown hK hq 2 rfl rfl 0 (by decide) lk0_ rfl dX8_tickOnce_317 ?_
            refine lv_iconst (v := 1) hx hb dX8_tickOnce_320 (by decide) ?_
            refine lv_dup2_11 hx hb dX8_tickOnce_321 rfl rfl ?_
            refine kk_lald hx hb hK hq 3 0 rfl rfl 1 rfl (by decide) (by decide) dX8_tickOnce_322 ?_
            refine W.eq (g2 := F0 m 323 ls [.long w_47, .int 1, .ref aNw]) (by subst efNw_48; rfl) ?_
            refine lv_lload hx hb dX8_tickOnce_323 (lv_at hl 0 rfl) ?_
            refine lv_aload_n hx hb dX8_tickOnce_325 rfl (lv_at hl 6 rfl) ?_
            refine lv_iconst (v := 1) hx hb dX8_tickOnce_326 (by decide) ?_
            refine kk_Vl (As := [.int 1]) (rest := [.long x11_52, .long w_47, .int 1, .ref aNw]) (wr := [(aVs, .inl (cVs, 64, .inr (.inl u_5.2.2.2.2.2.1))), (aSg, .inl (cSg, 128, .inl u_5.2.2.2.2.2.2))]) ⟨hx, hb, hml, hown, hts⟩ (c_X8_of l G aM aNw rM_kept rM_isKept rM_refused aVs aSg rM_was cNw 1 u_5.1 u_5.2.1 u_5.2.2.1 u_5.2.2.2.1 u_5.2.2.2.2.1 M_way M_wish M_moreTick M_moreForce M_runTurns M_runFirst M_runLast M_peak M_beside M_besideAt fNw_48 (by decide) (by decide)) (kk_cwV 1 hts hsb wd_163 wd_164 wd_165 wd_5 wd_166 rfl rfl hd_X8_of ⟨Nat.le_of_ble_eq_true rfl, Nat.le_of_ble_eq_true rfl⟩) hA hK hq [2, 3] [0, 1] [0] rfl rfl rfl (by decide) (by decide) (by decide) 0 8 rfl rfl rfl rfl hl.1 rfl (Nat.le_of_ble_eq_true rfl) dX8_tickOnce_327 ⟨Nat.zero_le _, Nat.zero_le _⟩ (fun r_54 u_53 H locs h_55 hq => ?_)
            have er_54 := h_55
            have hq : kAt G A s [(aVs, .inl (cVs, 64, .inr (.inl u_5.2.2.2.2.2.1))), (aSg, .inl (cSg, 128, .inl u_5.2.2.2.2.2.2)), (aM, .inr (8, [.ref aNw, .ref rM_kept, .ref rM_isKept, .ref rM_refused, .int u_5.1, .int u_5.2.1, .ref aVs, .int u_5.2.2.1, .ref aSg, .int u_5.2.2.2.1, .long u_5.2.2.2.2.1, .int M_way, .int M_wish, .long M_moreTick, .long M_moreForce, .int M_runTurns, .long M_runFirst, .long M_runLast, .ref rM_was, .long M_peak, .long M_beside, .int M_besideAt])), (aNw, .inl (cNw, 139, .inr (.inl fNw_48)))] H locs := hq
            refine lv_aload_n hx hb dX8_tickOnce_330 rfl (lv_at hl 6 rfl) ?_
            refine kk_get (ci := 8) (v := .ref aNw) (C := RX8) (T := TX8) (N := 22) hx hb hts iX8 hown hK hq 2 rfl rfl 0 (by decide) lk0_ rfl dX8_tickOnce_331 ?_
            refine lv_iconst (v := 0) hx hb dX8_tickOnce_334 (by decide) ?_
            refine kk_lald hx hb hK hq 3 0 rfl rfl 0 rfl (by decide) (by decide) dX8_tickOnce_335 ?_
            refine W.eq (g2 := F0 m 336 ls [.long (z_43.2 0), .long r_54, .long x11_52, .long w_47, .int 1, .ref aNw]) (by subst efNw_48; rfl) ?_
            refine lv_lmul hx hb dX8_tickOnce_336 ?_
            refine lv_lload hx hb dX8_tickOnce_337 (lv_at hl 1 rfl) ?_
            refine lv_ldiv hx hb dX8_tickOnce_339 hn0 ?_
            refine lv_lsub hx hb dX8_tickOnce_340 ?_
            refine lv_ladd hx hb dX8_tickOnce_341 ?_
            refine lv_topl (fun w_56 ew_56 => ?_)
            refine kk_last (ws' := [(aVs, .inl (cVs, 64, .inr (.inl u_5.2.2.2.2.2.1))), (aSg, .inl (cSg, 128, .inl u_5.2.2.2.2.2.2)), (aM, .inr (8, [.ref aNw, .ref rM_kept, .ref rM_isKept, .ref rM_refused, .int u_5.1, .int u_5.2.1, .ref aVs, .int u_5.2.2.1, .ref aSg, .int u_5.2.2.2.1, .long u_5.2.2.2.2.1, .int M_way, .int M_wish, .long M_moreTick, .long M_moreForce, .int M_runTurns, .long M_runFirst, .long M_runLast, .ref rM_was, .long M_peak, .long M_beside, .int M_besideAt])), (aNw, .inl (cNw, 139, .inr (.inl (vp_updL fNw_48 1 w_56))))]) hx hb hK hq 3 0 rfl rfl 1 rfl (by decide) (by decide) dX8_tickOnce_342 rfl (fun H locs hq => ?_)
            obtain ⟨fNw_57, efNw_57⟩ : ∃ z : Nat → Int64, z = vp_updL fNw_48 1 w_56 := ⟨_, rfl⟩
            rw [← efNw_57] at hq
            have agfNw_57 := AG_u efNw_57 (by assumption) (by decide)
            refine lv_aload_n hx hb dX8_tickOnce_343 rfl (lv_at hl 6 rfl) ?_
            refine kk_get (ci := 8) (v := .ref aNw) (C := RX8) (T := TX8) (N := 22) hx hb hts iX8 hown hK hq 2 rfl rfl 0 (by decide) lk0_ rfl dX8_tickOnce_344 ?_
            refine lv_bipush (v := 11) hx hb dX8_tickOnce_347 (by decide) ?_
            refine lv_dup2_11 hx hb dX8_tickOnce_349 rfl rfl ?_
            refine kk_lald hx hb hK hq 3 0 rfl rfl 11 rfl (by decide) (by decide) dX8_tickOnce_350 ?_
            refine W.eq (g2 := F0 m 351 ls [.long (z_43.2 11), .int 11, .ref aNw]) (by subst efNw_57 efNw_48; rfl) ?_
            refine lv_aload_n hx hb dX8_tickOnce_351 rfl (lv_at hl 6 rfl) ?_
            refine lv_iconst (v := 1) hx hb dX8_tickOnce_352 (by decide) ?_
            refine kk_Vl (As := [.int 1]) (rest := [.long (z_43.2 11), .int 11, .ref aNw]) (wr := [(aVs, .inl (cVs, 64, .inr (.inl u_5.2.2.2.2.2.1))), (aSg, .inl (cSg, 128, .inl u_5.2.2.2.2.2.2))]) ⟨hx, hb, hml, hown, hts⟩ (c_X8_of l G aM aNw rM_kept rM_isKept rM_refused aVs aSg rM_was cNw 1 u_5.1 u_5.2.1 u_5.2.2.1 u_5.2.2.2.1 u_5.2.2.2.2.1 M_way M_wish M_moreTick M_moreForce M_runTurns M_runFirst M_runLast M_peak M_beside M_besideAt fNw_57 (by decide) (by decide)) (kk_cwV 1 hts hsb wd_163 wd_164 wd_165 wd_5 wd_166 rfl rfl hd_X8_of ⟨Nat.le_of_ble_eq_true rfl, Nat.le_of_ble_eq_true rfl⟩) hA hK hq [2, 3] [0, 1] [0] rfl rfl rfl (by decide) (by decide) (by decide) 0 8 rfl rfl rfl rfl hl.1 rfl (Nat.le_of_ble_eq_true rfl) dX8_tickOnce_353 ⟨Nat.zero_le _, Nat.zero_le _⟩ (fun r_59 u_58 H locs h_60 hq => ?_)
            have er_59 := h_60
            have hq : kAt G A s [(aVs, .inl (cVs, 64, .inr (.inl u_5.2.2.2.2.2.1))), (aSg, .inl (cSg, 128, .inl u_5.2.2.2.2.2.2)), (aM, .inr (8, [.ref aNw, .ref rM_kept, .ref rM_isKept, .ref rM_refused, .int u_5.1, .int u_5.2.1, .ref aVs, .int u_5.2.2.1, .ref aSg, .int u_5.2.2.2.1, .long u_5.2.2.2.2.1, .int M_way, .int M_wish, .long M_moreTick, .long M_moreForce, .int M_runTurns, .long M_runFirst, .long M_runLast, .ref rM_was, .long M_peak, .long M_beside, .int M_besideAt])), (aNw, .inl (cNw, 139, .inr (.inl fNw_57)))] H locs := hq
            refine lv_aload_n hx hb dX8_tickOnce_356 rfl (lv_at hl 6 rfl) ?_
            refine kk_get (ci := 8) (v := .ref aNw) (C := RX8) (T := TX8) (N := 22) hx hb hts iX8 hown hK hq 2 rfl rfl 0 (by decide) lk0_ rfl dX8_tickOnce_357 ?_
            refine lv_bipush (v := 10) hx hb dX8_tickOnce_360 (by decide) ?_
            refine kk_lald hx hb hK hq 3 0 rfl rfl 10 rfl (by decide) (by decide) dX8_tickOnce_362 ?_
            refine W.eq (g2 := F0 m 363 ls [.long (z_43.2 10), .long r_59, .long (z_43.2 11), .int 11, .ref aNw]) (by subst efNw_57 efNw_48; rfl) ?_
            refine lv_lmul hx hb dX8_tickOnce_363 ?_
            refine lv_aload_n hx hb dX8_tickOnce_364 rfl (lv_at hl 6 rfl) ?_
            refine lv_bipush (v := 7) hx hb dX8_tickOnce_365 (by decide) ?_
            refine kk_Vl (As := [.int 7]) (rest := [.long (r_59 * (z_43.2 10)), .long (z_43.2 11), .int 11, .ref aNw]) (wr := [(aVs, .inl (cVs, 64, .inr (.inl u_5.2.2.2.2.2.1))), (aSg, .inl (cSg, 128, .inl u_5.2.2.2.2.2.2))]) ⟨hx, hb, hml, hown, hts⟩ (c_X8_of l G aM aNw rM_kept rM_isKept rM_refused aVs aSg rM_was cNw 7 u_5.1 u_5.2.1 u_5.2.2.1 u_5.2.2.2.1 u_5.2.2.2.2.1 M_way M_wish M_moreTick M_moreForce M_runTurns M_runFirst M_runLast M_peak M_beside M_besideAt fNw_57 (by decide) (by decide)) (kk_cwV 1 hts hsb wd_163 wd_164 wd_165 wd_5 wd_166 rfl rfl hd_X8_of ⟨Nat.le_of_ble_eq_true rfl, Nat.le_of_ble_eq_true rfl⟩) hA hK hq [2, 3] [0, 1] [0] rfl rfl rfl (by decide) (by decide) (by decide) 0 8 rfl rfl rfl rfl hl.1 rfl (Nat.le_of_ble_eq_true rfl) dX8_tickOnce_367 ⟨Nat.zero_le _, Nat.zero_le _⟩ (fun r_62 u_61 H locs h_63 hq => ?_)
            have er_62 := h_63
            have hq : kAt G A s [(aVs, .inl (cVs, 64, .inr (.inl u_5.2.2.2.2.2.1))), (aSg, .inl (cSg, 128, .inl u_5.2.2.2.2.2.2)), (aM, .inr (8, [.ref aNw, .ref rM_kept, .ref rM_isKept, .ref rM_refused, .int u_5.1, .int u_5.2.1, .ref aVs, .int u_5.2.2.1, .ref aSg, .int u_5.2.2.2.1, .long u_5.2.2.2.2.1, .int M_way, .int M_wish, .long M_moreTick, .long M_moreForce, .int M_runTurns, .long M_runFirst, .long M_runLast, .ref rM_was, .long M_peak, .long M_beside, .int M_besideAt])), (aNw, .inl (cNw, 139, .inr (.inl fNw_57)))] H locs := hq
            have hbe := be_ok wn (by assumption) er_62
            refine lv_ldiv hx hb dX8_tickOnce_370 hbe ?_
            refine lv_lload hx hb dX8_tickOnce_371 (lv_at hl 0 rfl) ?_
            refine lv_ladd hx hb dX8_tickOnce_373 ?_
            refine lv_lsub hx hb dX8_tickOnce_374 ?_
            refine lv_topl (fun w_64 ew_64 => ?_)
            refine kk_last (ws' := [(aVs, .inl (cVs, 64, .inr (.inl u_5.2.2.2.2.2.1))), (aSg, .inl (cSg, 128, .inl u_5.2.2.2.2.2.2)), (aM, .inr (8, [.ref aNw, .ref rM_kept, .ref rM_isKept, .ref rM_refused, .int u_5.1, .int u_5.2.1, .ref aVs, .int u_5.2.2.1, .ref aSg, .int u_5.2.2.2.1, .long u_5.2.2.2.2.1, .int M_way, .int M_wish, .long M_moreTick, .long M_moreForce, .int M_runTurns, .long M_runFirst, .long M_runLast, .ref rM_was, .long M_peak, .long M_beside, .int M_besideAt])), (aNw, .inl (cNw, 139, .inr (.inl (vp_updL fNw_57 11 w_64))))]) hx hb hK hq 3 0 rfl rfl 11 rfl (by decide) (by decide) dX8_tickOnce_375 rfl (fun H locs hq => ?_)
            obtain ⟨fNw_65, efNw_65⟩ : ∃ z : Nat → Int64, z = vp_updL fNw_57 11 w_64 := ⟨_, rfl⟩
            rw [← efNw_65] at hq
            have agfNw_65 := AG_u efNw_65 (by assumption) (by decide)
            refine lv_aload_n hx hb dX8_tickOnce_376 rfl (lv_at hl 6 rfl) ?_
            refine kk_get (ci := 8) (v := .ref aNw) (C := RX8) (T := TX8) (N := 22) hx hb hts iX8 hown hK hq 2 rfl rfl 0 (by decide) lk0_ rfl dX8_tickOnce_377 ?_
            refine lv_iconst (v := 1) hx hb dX8_tickOnce_380 (by decide) ?_
            refine lv_dup2_11 hx hb dX8_tickOnce_381 rfl rfl ?_
            refine kk_lald hx hb hK hq 3 0 rfl rfl 1 rfl (by decide) (by decide) dX8_tickOnce_382 ?_
            refine W.eq (g2 := F0 m 383 ls [.long w_56, .int 1, .ref aNw]) (by subst efNw_65 efNw_57; rfl) ?_
            refine lv_aload_n hx hb dX8_tickOnce_383 rfl (lv_at hl 6 rfl) ?_
            refine kk_get (ci := 8) (v := .ref aNw) (C := RX8) (T := TX8) (N := 22) hx hb hts iX8 hown hK hq 2 rfl rfl 0 (by decide) lk0_ rfl dX8_tickOnce_384 ?_
            refine lv_iconst (v := 1) hx hb dX8_tickOnce_387 (by decide) ?_
            refine kk_lald hx hb hK hq 3 0 rfl rfl 1 rfl (by decide) (by decide) dX8_tickOnce_388 ?_
            refine W.eq (g2 := F0 m 389 ls [.long w_56, .long w_56, .int 1, .ref aNw]) (by subst efNw_65 efNw_57; rfl) ?_
            refine lv_aload_n hx hb dX8_tickOnce_389 rfl (lv_at hl 6 rfl) ?_
            refine lv_iconst (v := 2) hx hb dX8_tickOnce_390 (by decide) ?_
            refine kk_Vl (As := [.int 2]) (rest := [.long w_56, .long w_56, .int 1, .ref aNw]) (wr := [(aVs, .inl (cVs, 64, .inr (.inl u_5.2.2.2.2.2.1))), (aSg, .inl (cSg, 128, .inl u_5.2.2.2.2.2.2))]) ⟨hx, hb, hml, hown, hts⟩ (c_X8_of l G aM aNw rM_kept rM_isKept rM_refused aVs aSg rM_was cNw 2 u_5.1 u_5.2.1 u_5.2.2.1 u_5.2.2.2.1 u_5.2.2.2.2.1 M_way M_wish M_moreTick M_moreForce M_runTurns M_runFirst M_runLast M_peak M_beside M_besideAt fNw_65 (by decide) (by decide)) (kk_cwV 1 hts hsb wd_163 wd_164 wd_165 wd_5 wd_166 rfl rfl hd_X8_of ⟨Nat.le_of_ble_eq_true rfl, Nat.le_of_ble_eq_true rfl⟩) hA hK hq [2, 3] [0, 1] [0] rfl rfl rfl (by decide) (by decide) (by decide) 0 8 rfl rfl rfl rfl hl.1 rfl (Nat.le_of_ble_eq_true rfl) dX8_tickOnce_391 ⟨Nat.zero_le _, Nat.zero_le _⟩ (fun r_67 u_66 H locs h_68 hq => ?_)
            have er_67 := h_68
            have hq : kAt G A s [(aVs, .inl (cVs, 64, .inr (.inl u_5.2.2.2.2.2.1))), (aSg, .inl (cSg, 128, .inl u_5.2.2.2.2.2.2)), (aM, .inr (8, [.ref aNw, .ref rM_kept, .ref rM_isKept, .ref rM_refused, .int u_5.1, .int u_5.2.1, .ref aVs, .int u_5.2.2.1, .ref aSg, .int u_5.2.2.2.1, .long u_5.2.2.2.2.1, .int M_way, .int M_wish, .long M_moreTick, .long M_moreForce, .int M_runTurns, .long M_runFirst, .long M_runLast, .ref rM_was, .long M_peak, .long M_beside, .int M_besideAt])), (aNw, .inl (cNw, 139, .inr (.inl fNw_65)))] H locs := hq
            refine lv_lmul hx hb dX8_tickOnce_394 ?_
            refine lv_ldc2 hx hb hown lk7_ dX8_tickOnce_395 ?_
            refine lv_ldiv hx hb dX8_tickOnce_398 (by decide) ?_
            refine lv_lsub hx hb dX8_tickOnce_399 ?_
            refine lv_topl (fun w_69 ew_69 => ?_)
            refine kk_last (ws' := [(aVs, .inl (cVs, 64, .inr (.inl u_5.2.2.2.2.2.1))), (aSg, .inl (cSg, 128, .inl u_5.2.2.2.2.2.2)), (aM, .inr (8, [.ref aNw, .ref rM_kept, .ref rM_isKept, .ref rM_refused, .int u_5.1, .int u_5.2.1, .ref aVs, .int u_5.2.2.1, .ref aSg, .int u_5.2.2.2.1, .long u_5.2.2.2.2.1, .int M_way, .int M_wish, .long M_moreTick, .long M_moreForce, .int M_runTurns, .long M_runFirst, .long M_runLast, .ref rM_was, .long M_peak, .long M_beside, .int M_besideAt])), (aNw, .inl (cNw, 139, .inr (.inl (vp_updL fNw_65 1 w_69))))]) hx hb hK hq 3 0 rfl rfl 1 rfl (by decide) (by decide) dX8_tickOnce_400 rfl (fun H locs hq => ?_)
            obtain ⟨fNw_70, efNw_70⟩ : ∃ z : Nat → Int64, z = vp_updL fNw_65 1 w_69 := ⟨_, rfl⟩
            rw [← efNw_70] at hq
            have agfNw_70 := AG_u efNw_70 (by assumption) (by decide)
            refine lv_aload_n hx hb dX8_tickOnce_401 rfl (lv_at hl 6 rfl) ?_
            refine kk_get (ci := 8) (v := .ref aNw) (C := RX8) (T := TX8) (N := 22) hx hb hts iX8 hown hK hq 2 rfl rfl 0 (by decide) lk0_ rfl dX8_tickOnce_402 ?_
            refine lv_bipush (v := 11) hx hb dX8_tickOnce_405 (by decide) ?_
            refine lv_dup2_11 hx hb dX8_tickOnce_407 rfl rfl ?_
            refine kk_lald hx hb hK hq 3 0 rfl rfl 11 rfl (by decide) (by decide) dX8_tickOnce_408 ?_
            refine W.eq (g2 := F0 m 409 ls [.long w_64, .int 11, .ref aNw]) (by subst efNw_70 efNw_65; rfl) ?_
            refine lv_aload_n hx hb dX8_tickOnce_409 rfl (lv_at hl 6 rfl) ?_
            refine kk_get (ci := 8) (v := .ref aNw) (C := RX8) (T := TX8) (N := 22) hx hb hts iX8 hown hK hq 2 rfl rfl 0 (by decide) lk0_ rfl dX8_tickOnce_410 ?_
            refine lv_bipush (v := 11) hx hb dX8_tickOnce_413 (by decide) ?_
            refine kk_lald hx hb hK hq 3 0 rfl rfl 11 rfl (by decide) (by decide) dX8_tickOnce_415 ?_
            refine W.eq (g2 := F0 m 416 ls [.long w_64, .long w_64, .int 11, .ref aNw]) (by subst efNw_70 efNw_65; rfl) ?_
            refine lv_aload_n hx hb dX8_tickOnce_416 rfl (lv_at hl 6 rfl) ?_
            refine lv_iconst (v := 2) hx hb dX8_tickOnce_417 (by decide) ?_
            refine kk_Vl (As := [.int 2]) (rest := [.long w_64, .long w_64, .int 11, .ref aNw]) (wr := [(aVs, .inl (cVs, 64, .inr (.inl u_5.2.2.2.2.2.1))), (aSg, .inl (cSg, 128, .inl u_5.2.2.2.2.2.2))]) ⟨hx, hb, hml, hown, hts⟩ (c_X8_of l G aM aNw rM_kept rM_isKept rM_refused aVs aSg rM_was cNw 2 u_5.1 u_5.2.1 u_5.2.2.1 u_5.2.2.2.1 u_5.2.2.2.2.1 M_way M_wish M_moreTick M_moreForce M_runTurns M_runFirst M_runLast M_peak M_beside M_besideAt fNw_70 (by decide) (by decide)) (kk_cwV 1 hts hsb wd_163 wd_164 wd_165 wd_5 wd_166 rfl rfl hd_X8_of ⟨Nat.le_of_ble_eq_true rfl, Nat.le_of_ble_eq_true rfl⟩) hA hK hq [2, 3] [0, 1] [0] rfl rfl rfl (by decide) (by decide) (by decide) 0 8 rfl rfl rfl rfl hl.1 rfl (Nat.le_of_ble_eq_true rfl) dX8_tickOnce_418 ⟨Nat.zero_le _, Nat.zero_le _⟩ (fun r_72 u_71 H locs h_73 hq => ?_)
            have er_72 := h_73
            have hq : kAt G A s [(aVs, .inl (cVs, 64, .inr (.inl u_5.2.2.2.2.2.1))), (aSg, .inl (cSg, 128, .inl u_5.2.2.2.2.2.2)), (aM, .inr (8, [.ref aNw, .ref rM_kept, .ref rM_isKept, .ref rM_refused, .int u_5.1, .int u_5.2.1, .ref aVs, .int u_5.2.2.1, .ref aSg, .int u_5.2.2.2.1, .long u_5.2.2.2.2.1, .int M_way, .int M_wish, .long M_moreTick, .long M_moreForce, .int M_runTurns, .long M_runFirst, .long M_runLast, .ref rM_was, .long M_peak, .long M_beside, .int M_besideAt])), (aNw, .inl (cNw, 139, .inr (.inl fNw_70)))] H locs := hq
            refine lv_lmul hx hb dX8_tickOnce_421 ?_
            refine lv_ldc2 hx hb hown lk7_ dX8_tickOnce_422 ?_
            refine lv_ldiv hx hb dX8_tickOnce_425 (by decide) ?_
            refine lv_lsub hx hb dX8_tickOnce_426 ?_
            refine lv_topl (fun w_74 ew_74 => ?_)
            refine kk_last (ws' := [(aVs, .inl (cVs, 64, .inr (.inl u_5.2.2.2.2.2.1))), (aSg, .inl (cSg, 128, .inl u_5.2.2.2.2.2.2)), (aM, .inr (8, [.ref aNw, .ref rM_kept, .ref rM_isKept, .ref rM_refused, .int u_5.1, .int u_5.2.1, .ref aVs, .int u_5.2.2.1, .ref aSg, .int u_5.2.2.2.1, .long u_5.2.2.2.2.1, .int M_way, .int M_wish, .long M_moreTick, .long M_moreForce, .int M_runTurns, .long M_runFirst, .long M_runLast, .ref rM_was, .long M_peak, .long M_beside, .int M_besideAt])), (aNw, .inl (cNw, 139, .inr (.inl (vp_updL fNw_70 11 w_74))))]) hx hb hK hq 3 0 rfl rfl 11 rfl (by decide) (by decide) dX8_tickOnce_427 rfl (fun H locs hq => ?_)
            obtain ⟨fNw_75, efNw_75⟩ : ∃ z : Nat → Int64, z = vp_updL fNw_70 11 w_74 := ⟨_, rfl⟩
            rw [← efNw_75] at hq
            have agfNw_75 := AG_u efNw_75 (by assumption) (by decide)
            refine lv_aload_n hx hb dX8_tickOnce_428 rfl (lv_at hl 6 rfl) ?_
            refine kk_get (ci := 8) (v := .ref aNw) (C := RX8) (T := TX8) (N := 22) hx hb hts iX8 hown hK hq 2 rfl rfl 0 (by decide) lk0_ rfl dX8_tickOnce_429 ?_
            refine lv_iconst (v := 0) hx hb dX8_tickOnce_432 (by decide) ?_
            refine lv_dup2_11 hx hb dX8_tickOnce_433 rfl rfl ?_
            refine kk_lald hx hb hK hq 3 0 rfl rfl 0 rfl (by decide) (by decide) dX8_tickOnce_434 ?_
            refine W.eq (g2 := F0 m 435 ls [.long (z_43.2 0), .int 0, .ref aNw]) (by subst efNw_75 efNw_70 efNw_65 efNw_57 efNw_48; rfl) ?_
            refine lv_aload_n hx hb dX8_tickOnce_435 rfl (lv_at hl 6 rfl) ?_
            refine kk_get (ci := 8) (v := .ref aNw) (C := RX8) (T := TX8) (N := 22) hx hb hts iX8 hown hK hq 2 rfl rfl 0 (by decide) lk0_ rfl dX8_tickOnce_436 ?_
            refine lv_iconst (v := 1) hx hb dX8_tickOnce_439 (by decide) ?_
            refine kk_lald hx hb hK hq 3 0 rfl rfl 1 rfl (by decide) (by decide) dX8_tickOnce_440 ?_
            refine W.eq (g2 := F0 m 441 ls [.long w_69, .long (z_43.2 0), .int 0, .ref aNw]) (by subst efNw_75 efNw_70; rfl) ?_
            refine lv_ladd hx hb dX8_tickOnce_441 ?_
            refine lv_topl (fun w_76 ew_76 => ?_)
            refine kk_last (ws' := [(aVs, .inl (cVs, 64, .inr (.inl u_5.2.2.2.2.2.1))), (aSg, .inl (cSg, 128, .inl u_5.2.2.2.2.2.2)), (aM, .inr (8, [.ref aNw, .ref rM_kept, .ref rM_isKept, .ref rM_refused, .int u_5.1, .int u_5.2.1, .ref aVs, .int u_5.2.2.1, .ref aSg, .int u_5.2.2.2.1, .long u_5.2.2.2.2.1, .int M_way, .int M_wish, .long M_moreTick, .long M_moreForce, .int M_runTurns, .long M_runFirst, .long M_runLast, .ref rM_was, .long M_peak, .long M_beside, .int M_besideAt])), (aNw, .inl (cNw, 139, .inr (.inl (vp_updL fNw_75 0 w_76))))]) hx hb hK hq 3 0 rfl rfl 0 rfl (by decide) (by decide) dX8_tickOnce_442 rfl (fun H locs hq => ?_)
            obtain ⟨fNw_77, efNw_77⟩ : ∃ z : Nat → Int64, z = vp_updL fNw_75 0 w_76 := ⟨_, rfl⟩
            rw [← efNw_77] at hq
            have agfNw_77 := AG_u efNw_77 (by assumption) (by decide)
            refine lv_aload_n hx hb dX8_tickOnce_443 rfl (lv_at hl 6 rfl) ?_
            refine kk_get (ci := 8) (v := .ref aNw) (C := RX8) (T := TX8) (N := 22) hx hb hts iX8 hown hK hq 2 rfl rfl 0 (by decide) lk0_ rfl dX8_tickOnce_444 ?_
            refine lv_bipush (v := 10) hx hb dX8_tickOnce_447 (by decide) ?_
            refine lv_dup2_11 hx hb dX8_tickOnce_449 rfl rfl ?_
            refine kk_lald hx hb hK hq 3 0 rfl rfl 10 rfl (by decide) (by decide) dX8_tickOnce_450 ?_
            refine W.eq (g2 := F0 m 451 ls [.long (z_43.2 10), .int 10, .ref aNw]) (by subst efNw_77 efNw_75 efNw_70 efNw_65 efNw_57 efNw_48; rfl) ?_
            refine lv_aload_n hx hb dX8_tickOnce_451 rfl (lv_at hl 6 rfl) ?_
            refine kk_get (ci := 8) (v := .ref aNw) (C := RX8) (T := TX8) (N := 22) hx hb hts iX8 hown hK hq 2 rfl rfl 0 (by decide) lk0_ rfl dX8_tickOnce_452 ?_
            refine lv_bipush (v := 11) hx hb dX8_tickOnce_455 (by decide) ?_
            refine kk_lald hx hb hK hq 3 0 rfl rfl 11 rfl (by decide) (by decide) dX8_tickOnce_457 ?_
            refine W.eq (g2 := F0 m 458 ls [.long w_74, .long (z_43.2 10), .int 10, .ref aNw]) (by subst efNw_77 efNw_75; rfl) ?_
            refine lv_ladd hx hb dX8_tickOnce_458 ?_
            refine lv_topl (fun w_78 ew_78 => ?_)
            refine kk_last (ws' := [(aVs, .inl (cVs, 64, .inr (.inl u_5.2.2.2.2.2.1))), (aSg, .inl (cSg, 128, .inl u_5.2.2.2.2.2.2)), (aM, .inr (8, [.ref aNw, .ref rM_kept, .ref rM_isKept, .ref rM_refused, .int u_5.1, .int u_5.2.1, .ref aVs, .int u_5.2.2.1, .ref aSg, .int u_5.2.2.2.1, .long u_5.2.2.2.2.1, .int M_way, .int M_wish, .long M_moreTick, .long M_moreForce, .int M_runTurns, .long M_runFirst, .long M_runLast, .ref rM_was, .long M_peak, .long M_beside, .int M_besideAt])), (aNw, .inl (cNw, 139, .inr (.inl (vp_updL fNw_77 10 w_78))))]) hx hb hK hq 3 0 rfl rfl 10 rfl (by decide) (by decide) dX8_tickOnce_459 rfl (fun H locs hq => ?_)
            obtain ⟨fNw_79, efNw_79⟩ : ∃ z : Nat → Int64, z = vp_updL fNw_77 10 w_78 := ⟨_, rfl⟩
            rw [← efNw_79] at hq
            have agfNw_79 := AG_u efNw_79 (by assumption) (by decide)
            refine lv_aload_n hx hb dX8_tickOnce_460 rfl (lv_at hl 6 rfl) ?_
            refine kk_get (ci := 8) (v := .ref aNw) (C := RX8) (T := TX8) (N := 22) hx hb hts iX8 hown hK hq 2 rfl rfl 0 (by decide) lk0_ rfl dX8_tickOnce_461 ?_
            refine lv_bipush (v := 10) hx hb dX8_tickOnce_464 (by decide) ?_
            refine kk_lald hx hb hK hq 3 0 rfl rfl 10 rfl (by decide) (by decide) dX8_tickOnce_466 ?_
            refine W.eq (g2 := F0 m 467 ls [.long w_78]) (by subst efNw_79; rfl) ?_
            refine kk_Sl (As := [.long w_78]) (rest := []) (wr := [(aVs, .inl (cVs, 64, .inr (.inl u_5.2.2.2.2.2.1))), (aSg, .inl (cSg, 128, .inl u_5.2.2.2.2.2.2)), (aM, .inr (8, [.ref aNw, .ref rM_kept, .ref rM_isKept, .ref rM_refused, .int u_5.1, .int u_5.2.1, .ref aVs, .int u_5.2.2.1, .ref aSg, .int u_5.2.2.2.1, .long u_5.2.2.2.2.1, .int M_way, .int M_wish, .long M_moreTick, .long M_moreForce, .int M_runTurns, .long M_runFirst, .long M_runLast, .ref rM_was, .long M_peak, .long M_beside, .int M_besideAt])), (aNw, .inl (cNw, 139, .inr (.inl fNw_79)))]) ⟨hx, hb, hml, hown, hts⟩ (c_X8_size l G w_78) (kk_cwS 1 hts hsb wd_401 wd_402 wd_5 wd_403 rfl rfl hd_X8_size ⟨Nat.le_of_ble_eq_true rfl, Nat.le_of_ble_eq_true rfl⟩) hA hK hq [] [0, 1, 2, 3] [] rfl rfl rfl (by decide) (by decide) (by decide) rfl hl.1 rfl (Nat.le_of_ble_eq_true rfl) dX8_tickOnce_467 ⟨Nat.zero_le _, Nat.zero_le _⟩ (fun r_81 u_80 H locs h_82 hq => ?_)
            have er_81 := h_82
            have hq : kAt G A s [(aVs, .inl (cVs, 64, .inr (.inl u_5.2.2.2.2.2.1))), (aSg, .inl (cSg, 128, .inl u_5.2.2.2.2.2.2)), (aM, .inr (8, [.ref aNw, .ref rM_kept, .ref rM_isKept, .ref rM_refused, .int u_5.1, .int u_5.2.1, .ref aVs, .int u_5.2.2.1, .ref aSg, .int u_5.2.2.2.1, .long u_5.2.2.2.2.1, .int M_way, .int M_wish, .long M_moreTick, .long M_moreForce, .int M_runTurns, .long M_runFirst, .long M_runLast, .ref rM_was, .long M_peak, .long M_beside, .int M_besideAt])), (aNw, .inl (cNw, 139, .inr (.inl fNw_79)))] H locs := hq
            refine lv_ldc2 hx hb hown lk8_ dX8_tickOnce_470 ?_
            refine kk_lc_le (tgt := 513) hx hb dX8_tickOnce_473 dX8_tickOnce_474 (by decide) (fun c_83 => ?_) (fun c_83 => ?_)
            · skip
              refine lv_aload_n hx hb dX8_tickOnce_513 rfl (lv_at hl 6 rfl) ?_
              refine kk_get (ci := 8) (v := .ref aNw) (C := RX8) (T := TX8) (N := 22) hx hb hts iX8 hown hK hq 2 rfl rfl 0 (by decide) lk0_ rfl dX8_tickOnce_514 ?_
              refine lv_iconst (v := 0) hx hb dX8_tickOnce_517 (by decide) ?_
              refine kk_lald hx hb hK hq 3 0 rfl rfl 0 rfl (by decide) (by decide) dX8_tickOnce_518 ?_
              refine W.eq (g2 := F0 m 519 ls [.long w_76]) (by subst efNw_79 efNw_77; rfl) ?_
              refine kk_Sl (As := [.long w_76]) (rest := []) (wr := [(aVs, .inl (cVs, 64, .inr (.inl u_5.2.2.2.2.2.1))), (aSg, .inl (cSg, 128, .inl u_5.2.2.2.2.2.2)), (aM, .inr (8, [.ref aNw, .ref rM_kept, .ref rM_isKept, .ref rM_refused, .int u_5.1, .int u_5.2.1, .ref aVs, .int u_5.2.2.1, .ref aSg, .int u_5.2.2.2.1, .long u_5.2.2.2.2.1, .int M_way, .int M_wish, .long M_moreTick, .long M_moreForce, .int M_runTurns, .long M_runFirst, .long M_runLast, .ref rM_was, .long M_peak, .long M_beside, .int M_besideAt])), (aNw, .inl (cNw, 139, .inr (.inl fNw_79)))]) ⟨hx, hb, hml, hown, hts⟩ (c_X8_size l G w_76) (kk_cwS 1 hts hsb wd_401 wd_402 wd_5 wd_403 rfl rfl hd_X8_size ⟨Nat.le_of_ble_eq_true rfl, Nat.le_of_ble_eq_true rfl⟩) hA hK hq [] [0, 1, 2, 3] [] rfl rfl rfl (by decide) (by decide) (by decide) rfl hl.1 rfl (Nat.le_of_ble_eq_true rfl) dX8_tickOnce_519 ⟨Nat.zero_le _, Nat.zero_le _⟩ (fun r_85 u_84 H locs h_86 hq => ?_)
              have er_85 := h_86
              have hq : kAt G A s [(aVs, .inl (cVs, 64, .inr (.inl u_5.2.2.2.2.2.1))), (aSg, .inl (cSg, 128, .inl u_5.2.2.2.2.2.2)), (aM, .inr (8, [.ref aNw, .ref rM_kept, .ref rM_isKept, .ref rM_refused, .int u_5.1, .int u_5.2.1, .ref aVs, .int u_5.2.2.1, .ref aSg, .int u_5.2.2.2.1, .long u_5.2.2.2.2.1, .int M_way, .int M_wish, .long M_moreTick, .long M_moreForce, .int M_runTurns, .long M_runFirst, .long M_runLast, .ref rM_was, .long M_peak, .long M_beside, .int M_besideAt])), (aNw, .inl (cNw, 139, .inr (.inl fNw_79)))] H locs := hq
              refine lv_ldc2 hx hb hown lk8_ dX8_tickOnce_522 ?_
              refine lv_lsub hx hb dX8_tickOnce_525 ?_
              refine lv_topl (fun x13_87 ex13_87 => ?_)
              refine lv_lstore (lv' := [(13, .long x13_87), (11, .long x11_52), (9, .long r_21), (7, .long r_16), (5, .long z0_13), (3, .long r_3), (1, .long x1_1), (0, .ref aM)]) hx hb dX8_tickOnce_526 hl (by decide) rfl (fun ls hl => ?_)
              refine lv_lload hx hb dX8_tickOnce_528 (lv_at hl 0 rfl) ?_
              refine lv_lconst (v := 0) hx hb dX8_tickOnce_530 (by decide) ?_
              refine kk_lc_le (tgt := 626) hx hb dX8_tickOnce_531 dX8_tickOnce_532 (by decide) (fun c_88 => ?_) (fun c_88 => ?_)
              · skip
                refine lv_aload_n hx hb dX8_tickOnce_626 rfl (lv_at hl 7 rfl) ?_
                refine kk_get (ci := 8) (v := .ref aNw) (C := RX8) (T := TX8) (N := 22) hx hb hts iX8 hown hK hq 2 rfl rfl 0 (by decide) lk0_ rfl dX8_tickOnce_627 ?_
                refine lv_iconst (v := 1) hx hb dX8_tickOnce_630 (by decide) ?_
                refine kk_lald hx hb hK hq 3 0 rfl rfl 1 rfl (by decide) (by decide) dX8_tickOnce_631 ?_
                refine W.eq (g2 := F0 m 632 ls [.long w_69]) (by subst efNw_79 efNw_77 efNw_75 efNw_70; rfl) ?_
                refine lv_lconst (v := 0) hx hb dX8_tickOnce_632 (by decide) ?_
                refine kk_lc_eq (tgt := 691) hx hb dX8_tickOnce_633 dX8_tickOnce_634 (by decide) (fun c_89 => ?_) (fun c_89 => ?_)
                · skip
                  refine lv_aload_n hx hb dX8_tickOnce_691 rfl (lv_at hl 7 rfl) ?_
                  refine kk_get (ci := 8) (v := .ref aNw) (C := RX8) (T := TX8) (N := 22) hx hb hts iX8 hown hK hq 2 rfl rfl 0 (by decide) lk0_ rfl dX8_tickOnce_692 ?_
                  refine lv_iconst (v := 0) hx hb dX8_tickOnce_695 (by decide) ?_
                  refine kk_lald hx hb hK hq 3 0 rfl rfl 0 rfl (by decide) (by decide) dX8_tickOnce_696 ?_
                  refine W.eq (g2 := F0 m 697 ls [.long w_76]) (by subst efNw_79 efNw_77; rfl) ?_
                  refine lv_lconst (v := 0) hx hb dX8_tickOnce_697 (by decide) ?_
                  refine kk_join1 (fun (z0_91 : Int32) (H : Heap) (locs : List Loc) (ls : Array Slot) => z0_91 = (if w_76 = 0 then 1 else if x1_1 = 0 then 0 else if fX8_signOf x1_1 = fX8_signOf w_76 then 0 else 1) ∧ lv_has ls 16 [(13, .long x13_87), (11, .long x11_52), (9, .long r_21), (7, .long r_16), (5, .long z0_13), (3, .long r_3), (1, .long x1_1), (0, .ref aM)] ∧ kAt G A s [(aVs, .inl (cVs, 64, .inr (.inl u_5.2.2.2.2.2.1))), (aSg, .inl (cSg, 128, .inl u_5.2.2.2.2.2.2)), (aM, .inr (8, [.ref aNw, .ref rM_kept, .ref rM_isKept, .ref rM_refused, .int u_5.1, .int u_5.2.1, .ref aVs, .int u_5.2.2.1, .ref aSg, .int u_5.2.2.2.1, .long u_5.2.2.2.2.1, .int M_way, .int M_wish, .long M_moreTick, .long M_moreForce, .int M_runTurns, .long M_runFirst, .long M_runLast, .ref rM_was, .long M_peak, .long M_beside, .int M_besideAt])), (aNw, .inl (cNw, 139, .inr (.inl fNw_79)))] H locs) 729 (fun z0_91 => [.int z0_91]) (fun z0_91 H locs ls hv => ?_) (fun J_92 => ?_)
                  · skip
                    obtain ⟨ez0_91, hl, hq⟩ := hv
                    refine lv_istore (lv' := [(15, .int z0_91), (13, .long x13_87), (11, .long x11_52), (9, .long r_21), (7, .long r_16), (5, .long z0_13), (3, .long r_3), (1, .long x1_1), (0, .ref aM)]) hx hb dX8_tickOnce_729 hl (by decide) rfl (fun ls hl => ?_)
                    refine lv_aload_n hx hb dX8_tickOnce_731 rfl (lv_at hl 8 rfl) ?_
                    refine kk_get (ci := 8) (v := .ref aNw) (C := RX8) (T := TX8) (N := 22) hx hb hts iX8 hown hK hq 2 rfl rfl 0 (by decide) lk0_ rfl dX8_tickOnce_732 ?_
                    refine lv_iconst (v := 3) hx hb dX8_tickOnce_735 (by decide) ?_
                    refine lv_iload hx hb dX8_tickOnce_736 (lv_at hl 0 rfl) ?_
                    refine kk_join1 (fun (z0_94 : Int64) (H : Heap) (locs : List Loc) (ls : Array Slot) => z0_94 = (if z0_91 = 0 then (z_43.2 3) + 1 else 0) ∧ lv_has ls 16 [(15, .int z0_91), (13, .long x13_87), (11, .long x11_52), (9, .long r_21), (7, .long r_16), (5, .long z0_13), (3, .long r_3), (1, .long x1_1), (0, .ref aM)] ∧ kAt G A s [(aVs, .inl (cVs, 64, .inr (.inl u_5.2.2.2.2.2.1))), (aSg, .inl (cSg, 128, .inl u_5.2.2.2.2.2.2)), (aM, .inr (8, [.ref aNw, .ref rM_kept, .ref rM_isKept, .ref rM_refused, .int u_5.1, .int u_5.2.1, .ref aVs, .int u_5.2.2.1, .ref aSg, .int u_5.2.2.2.1, .long u_5.2.2.2.2.1, .int M_way, .int M_wish, .long M_moreTick, .long M_moreForce, .int M_runTurns, .long M_runFirst, .long M_runLast, .ref rM_was, .long M_peak, .long M_beside, .int M_besideAt])), (aNw, .inl (cNw, 139, .inr (.inl fNw_79)))] H locs) 753 (fun z0_94 => [.long z0_94, .int 3, .ref aNw]) (fun z0_94 H locs ls hv => ?_) (fun J_95 => ?_)
                    · skip
                      obtain ⟨ez0_94, hl, hq⟩ := hv
                      refine kk_last (ws' := [(aVs, .inl (cVs, 64, .inr (.inl u_5.2.2.2.2.2.1))), (aSg, .inl (cSg, 128, .inl u_5.2.2.2.2.2.2)), (aM, .inr (8, [.ref aNw, .ref rM_kept, .ref rM_isKept, .ref rM_refused, .int u_5.1, .int u_5.2.1, .ref aVs, .int u_5.2.2.1, .ref aSg, .int u_5.2.2.2.1, .long u_5.2.2.2.2.1, .int M_way, .int M_wish, .long M_moreTick, .long M_moreForce, .int M_runTurns, .long M_runFirst, .long M_runLast, .ref rM_was, .long M_peak, .long M_beside, .int M_besideAt])), (aNw, .inl (cNw, 139, .inr (.inl (vp_updL fNw_79 3 z0_94))))]) hx hb hK hq 3 0 rfl rfl 3 rfl (by decide) (by decide) dX8_tickOnce_753 rfl (fun H locs hq => ?_)
                      obtain ⟨fNw_96, efNw_96⟩ : ∃ z : Nat → Int64, z = vp_updL fNw_79 3 z0_94 := ⟨_, rfl⟩
                      rw [← efNw_96] at hq
                      refine lv_aload_n hx hb dX8_tickOnce_754 rfl (lv_at hl 8 rfl) ?_
                      refine kk_get (ci := 8) (v := .ref aNw) (C := RX8) (T := TX8) (N := 22) hx hb hts iX8 hown hK hq 2 rfl rfl 0 (by decide) lk0_ rfl dX8_tickOnce_755 ?_
                      refine lv_iconst (v := 5) hx hb dX8_tickOnce_758 (by decide) ?_
                      refine lv_dup2_11 hx hb dX8_tickOnce_759 rfl rfl ?_
                      refine kk_lald hx hb hK hq 3 0 rfl rfl 5 rfl (by decide) (by decide) dX8_tickOnce_760 ?_
                      refine W.eq (g2 := F0 m 761 ls [.long (z_43.2 5), .int 5, .ref aNw]) (by subst efNw_96 efNw_79 efNw_77 efNw_75 efNw_70 efNw_65 efNw_57 efNw_48; rfl) ?_
                      refine lv_lconst (v := 1) hx hb dX8_tickOnce_761 (by decide) ?_
                      refine lv_ladd hx hb dX8_tickOnce_762 ?_
                      refine lv_topl (fun w_97 ew_97 => ?_)
                      refine kk_last (ws' := [(aVs, .inl (cVs, 64, .inr (.inl u_5.2.2.2.2.2.1))), (aSg, .inl (cSg, 128, .inl u_5.2.2.2.2.2.2)), (aM, .inr (8, [.ref aNw, .ref rM_kept, .ref rM_isKept, .ref rM_refused, .int u_5.1, .int u_5.2.1, .ref aVs, .int u_5.2.2.1, .ref aSg, .int u_5.2.2.2.1, .long u_5.2.2.2.2.1, .int M_way, .int M_wish, .long M_moreTick, .long M_moreForce, .int M_runTurns, .long M_runFirst, .long M_runLast, .ref rM_was, .long M_peak, .long M_beside, .int M_besideAt])), (aNw, .inl (cNw, 139, .inr (.inl (vp_updL fNw_96 5 w_97))))]) hx hb hK hq 3 0 rfl rfl 5 rfl (by decide) (by decide) dX8_tickOnce_763 rfl (fun H locs hq => ?_)
                      obtain ⟨fNw_98, efNw_98⟩ : ∃ z : Nat → Int64, z = vp_updL fNw_96 5 w_97 := ⟨_, rfl⟩
                      rw [← efNw_98] at hq
                      have hf : ((u_5.1, u_5.2.1, u_5.2.2.1, u_5.2.2.2.1, u_5.2.2.2.2.1, M_runTurns, M_runFirst, M_runLast, fNw_98, u_5.2.2.2.2.2.1, u_5.2.2.2.2.2.2) : Int32 × Int32 × Int32 × Int32 × Int64 × Int32 × Int64 × Int64 × (Nat → Int64) × (Nat → Int64) × (Nat → Int32)) = fX8_tickOnce M_at M_fault M_valueMany M_signMany M_tells M_way M_wish M_moreTick M_moreForce M_runTurns M_runFirst M_runLast fNw fVs fSg := by
                        clear hq hl
                        subst efNw_98 ew_97 efNw_96 ez0_94 ez0_91 ex13_87 er_85 er_81 efNw_79 ew_78 efNw_77 ew_76 efNw_75 ew_74 er_72 efNw_70 ew_69 er_67 efNw_65 ew_64 er_62 er_59 efNw_57 ew_56 er_54 ex11_52 er_50 efNw_48 ew_47 ez0_45 ez_43 efNw_36 ez0_34 efNw_32 ew_31 er_29 efNw_27 ew_26 er_24 er_21 efNw_19 ew_18 er_16 ez0_13 er_10 ex5_8 eu_5 er_6 er_3 ex1_1
                        exact ((if_neg c_83).trans ((if_neg c_88).trans ((if_pos c_89).trans (rfl)))).symm
                      exact kk_ev hx hb hr hlocks hK hq [2, 3, 0, 1] (u_5.1, u_5.2.1, u_5.2.2.1, u_5.2.2.2.1, u_5.2.2.2.2.1, M_runTurns, M_runFirst, M_runLast, fNw_98, u_5.2.2.2.2.2.1, u_5.2.2.2.2.2.2) rfl (by decide) dX8_tickOnce_764 hf
                    · skip
                      refine lv_if_eq (tgt := 745) hx hb dX8_tickOnce_738 (by decide) (fun c_93 => ?_) (fun c_93 => ?_)
                      · skip
                        refine lv_aload_n hx hb dX8_tickOnce_745 rfl (lv_at hl 8 rfl) ?_
                        refine kk_get (ci := 8) (v := .ref aNw) (C := RX8) (T := TX8) (N := 22) hx hb hts iX8 hown hK hq 2 rfl rfl 0 (by decide) lk0_ rfl dX8_tickOnce_746 ?_
                        refine lv_iconst (v := 3) hx hb dX8_tickOnce_749 (by decide) ?_
                        refine kk_lald hx hb hK hq 3 0 rfl rfl 3 rfl (by decide) (by decide) dX8_tickOnce_750 ?_
                        refine W.eq (g2 := F0 m 751 ls [.long (z_43.2 3), .int 3, .ref aNw]) (by subst efNw_79 efNw_77 efNw_75 efNw_70 efNw_65 efNw_57 efNw_48; rfl) ?_
                        refine lv_lconst (v := 1) hx hb dX8_tickOnce_751 (by decide) ?_
                        refine lv_ladd hx hb dX8_tickOnce_752 ?_
                        exact J_95 ((z_43.2 3) + 1) _ _ _ ⟨(if_pos c_93).symm, lv_sub hl [0, 1, 2, 3, 4, 5, 6, 7, 8] rfl, hq⟩
                      · skip
                        refine lv_lconst (v := 0) hx hb dX8_tickOnce_741 (by decide) ?_
                        refine lv_goto (tgt := 753) hx hb dX8_tickOnce_742 (by decide) ?_
                        exact J_95 0 _ _ _ ⟨(if_neg c_93).symm, lv_sub hl [0, 1, 2, 3, 4, 5, 6, 7, 8] rfl, hq⟩
                  · skip
                    refine kk_lc_eq (tgt := 724) hx hb dX8_tickOnce_698 dX8_tickOnce_699 (by decide) (fun c_90 => ?_) (fun c_90 => ?_)
                    · skip
                      refine lv_iconst (v := 1) hx hb dX8_tickOnce_724 (by decide) ?_
                      refine lv_goto (tgt := 729) hx hb dX8_tickOnce_725 (by decide) ?_
                      exact J_92 1 _ _ _ ⟨(if_pos c_90).symm, lv_sub hl [0, 1, 2, 3, 4, 5, 6, 7] rfl, hq⟩
                    · skip
                      refine lv_lload_n hx hb dX8_tickOnce_702 rfl (lv_at hl 6 rfl) ?_
                      refine lv_lconst (v := 0) hx hb dX8_tickOnce_703 (by decide) ?_
                      refine kk_lc_eq (tgt := 728) hx hb dX8_tickOnce_704 dX8_tickOnce_705 (by decide) (fun c_99 => ?_) (fun c_99 => ?_)
                      · skip
                        refine lv_iconst (v := 0) hx hb dX8_tickOnce_728 (by decide) ?_
                        exact J_92 0 _ _ _ ⟨((if_neg c_90).trans (if_pos c_99)).symm, lv_sub hl [0, 1, 2, 3, 4, 5, 6, 7] rfl, hq⟩
                      · skip
                        refine lv_lload_n hx hb dX8_tickOnce_708 rfl (lv_at hl 6 rfl) ?_
                        refine kk_Si (As := [.long x1_1]) (rest := []) (wr := [(aVs, .inl (cVs, 64, .inr (.inl u_5.2.2.2.2.2.1))), (aSg, .inl (cSg, 128, .inl u_5.2.2.2.2.2.2)), (aM, .inr (8, [.ref aNw, .ref rM_kept, .ref rM_isKept, .ref rM_refused, .int u_5.1, .int u_5.2.1, .ref aVs, .int u_5.2.2.1, .ref aSg, .int u_5.2.2.2.1, .long u_5.2.2.2.2.1, .int M_way, .int M_wish, .long M_moreTick, .long M_moreForce, .int M_runTurns, .long M_runFirst, .long M_runLast, .ref rM_was, .long M_peak, .long M_beside, .int M_besideAt])), (aNw, .inl (cNw, 139, .inr (.inl fNw_79)))]) ⟨hx, hb, hml, hown, hts⟩ (c_X8_signOf l G x1_1) (kk_cwS 1 hts hsb wd_568 wd_569 wd_5 wd_570 rfl rfl hd_X8_signOf ⟨Nat.le_of_ble_eq_true rfl, Nat.le_of_ble_eq_true rfl⟩) hA hK hq [] [0, 1, 2, 3] [] rfl rfl rfl (by decide) (by decide) (by decide) rfl hl.1 rfl (Nat.le_of_ble_eq_true rfl) dX8_tickOnce_709 ⟨Nat.zero_le _, Nat.zero_le _⟩ (fun r_101 u_100 H locs h_102 hq => ?_)
                        obtain rfl := h_102
                        have hq : kAt G A s [(aVs, .inl (cVs, 64, .inr (.inl u_5.2.2.2.2.2.1))), (aSg, .inl (cSg, 128, .inl u_5.2.2.2.2.2.2)), (aM, .inr (8, [.ref aNw, .ref rM_kept, .ref rM_isKept, .ref rM_refused, .int u_5.1, .int u_5.2.1, .ref aVs, .int u_5.2.2.1, .ref aSg, .int u_5.2.2.2.1, .long u_5.2.2.2.2.1, .int M_way, .int M_wish, .long M_moreTick, .long M_moreForce, .int M_runTurns, .long M_runFirst, .long M_runLast, .ref rM_was, .long M_peak, .long M_beside, .int M_besideAt])), (aNw, .inl (cNw, 139, .inr (.inl fNw_79)))] H locs := hq
                        refine lv_aload_n hx hb dX8_tickOnce_712 rfl (lv_at hl 7 rfl) ?_
                        refine kk_get (ci := 8) (v := .ref aNw) (C := RX8) (T := TX8) (N := 22) hx hb hts iX8 hown hK hq 2 rfl rfl 0 (by decide) lk0_ rfl dX8_tickOnce_713 ?_
                        refine lv_iconst (v := 0) hx hb dX8_tickOnce_716 (by decide) ?_
                        refine kk_lald hx hb hK hq 3 0 rfl rfl 0 rfl (by decide) (by decide) dX8_tickOnce_717 ?_
                        refine W.eq (g2 := F0 m 718 ls [.long w_76, .int (fX8_signOf x1_1)]) (by subst efNw_79 efNw_77; rfl) ?_
                        refine kk_Si (As := [.long w_76]) (rest := [.int (fX8_signOf x1_1)]) (wr := [(aVs, .inl (cVs, 64, .inr (.inl u_5.2.2.2.2.2.1))), (aSg, .inl (cSg, 128, .inl u_5.2.2.2.2.2.2)), (aM, .inr (8, [.ref aNw, .ref rM_kept, .ref rM_isKept, .ref rM_refused, .int u_5.1, .int u_5.2.1, .ref aVs, .int u_5.2.2.1, .ref aSg, .int u_5.2.2.2.1, .long u_5.2.2.2.2.1, .int M_way, .int M_wish, .long M_moreTick, .long M_moreForce, .int M_runTurns, .long M_runFirst, .long M_runLast, .ref rM_was, .long M_peak, .long M_beside, .int M_besideAt])), (aNw, .inl (cNw, 139, .inr (.inl fNw_79)))]) ⟨hx, hb, hml, hown, hts⟩ (c_X8_signOf l G w_76) (kk_cwS 1 hts hsb wd_568 wd_569 wd_5 wd_570 rfl rfl hd_X8_signOf ⟨Nat.le_of_ble_eq_true rfl, Nat.le_of_ble_eq_true rfl⟩) hA hK hq [] [0, 1, 2, 3] [] rfl rfl rfl (by decide) (by decide) (by decide) rfl hl.1 rfl (Nat.le_of_ble_eq_true rfl) dX8_tickOnce_718 ⟨Nat.zero_le _, Nat.zero_le _⟩ (fun r_104 u_103 H locs h_105 hq => ?_)
                        obtain rfl := h_105
                        have hq : kAt G A s [(aVs, .inl (cVs, 64, .inr (.inl u_5.2.2.2.2.2.1))), (aSg, .inl (cSg, 128, .inl u_5.2.2.2.2.2.2)), (aM, .inr (8, [.ref aNw, .ref rM_kept, .ref rM_isKept, .ref rM_refused, .int u_5.1, .int u_5.2.1, .ref aVs, .int u_5.2.2.1, .ref aSg, .int u_5.2.2.2.1, .long u_5.2.2.2.2.1, .int M_way, .int M_wish, .long M_moreTick, .long M_moreForce, .int M_runTurns, .long M_runFirst, .long M_runLast, .ref rM_was, .long M_peak, .long M_beside, .int M_besideAt])), (aNw, .inl (cNw, 139, .inr (.inl fNw_79)))] H locs := hq
                        refine lv_icmp_eq (tgt := 728) hx hb dX8_tickOnce_721 (by decide) (fun c_106 => ?_) (fun c_106 => ?_)
                        · skip
                          refine lv_iconst (v := 0) hx hb dX8_tickOnce_728 (by decide) ?_
                          exact J_92 0 _ _ _ ⟨((if_neg c_90).trans ((if_neg c_99).trans (if_pos c_106))).symm, lv_sub hl [0, 1, 2, 3, 4, 5, 6, 7] rfl, hq⟩
                        · skip
                          refine lv_iconst (v := 1) hx hb dX8_tickOnce_724 (by decide) ?_
                          refine lv_goto (tgt := 729) hx hb dX8_tickOnce_725 (by decide) ?_
                          exact J_92 1 _ _ _ ⟨((if_neg c_90).trans ((if_neg c_99).trans (if_neg c_106))).symm, lv_sub hl [0, 1, 2, 3, 4, 5, 6, 7] rfl, hq⟩
                · skip
                  refine lv_aload_n hx hb dX8_tickOnce_637 rfl (lv_at hl 7 rfl) ?_
                  refine kk_get (ci := 8) (v := .ref aNw) (C := RX8) (T := TX8) (N := 22) hx hb hts iX8 hown hK hq 2 rfl rfl 0 (by decide) lk0_ rfl dX8_tickOnce_638 ?_
                  refine lv_bipush (v := 12) hx hb dX8_tickOnce_641 (by decide) ?_
                  refine kk_lald hx hb hK hq 3 0 rfl rfl 12 rfl (by decide) (by decide) dX8_tickOnce_643 ?_
                  refine W.eq (g2 := F0 m 644 ls [.long (z_43.2 12)]) (by subst efNw_79 efNw_77 efNw_75 efNw_70 efNw_65 efNw_57 efNw_48; rfl) ?_
                  refine lv_lconst (v := 0) hx hb dX8_tickOnce_644 (by decide) ?_
                  refine kk_lc_eq (tgt := 674) hx hb dX8_tickOnce_645 dX8_tickOnce_646 (by decide) (fun c_107 => ?_) (fun c_107 => ?_)
                  · skip
                    refine lv_aload_n hx hb dX8_tickOnce_674 rfl (lv_at hl 7 rfl) ?_
                    refine kk_get (ci := 8) (v := .ref aNw) (C := RX8) (T := TX8) (N := 22) hx hb hts iX8 hown hK hq 2 rfl rfl 0 (by decide) lk0_ rfl dX8_tickOnce_675 ?_
                    refine lv_bipush (v := 12) hx hb dX8_tickOnce_678 (by decide) ?_
                    refine lv_aload_n hx hb dX8_tickOnce_680 rfl (lv_at hl 7 rfl) ?_
                    refine kk_get (ci := 8) (v := .ref aNw) (C := RX8) (T := TX8) (N := 22) hx hb hts iX8 hown hK hq 2 rfl rfl 0 (by decide) lk0_ rfl dX8_tickOnce_681 ?_
                    refine lv_iconst (v := 1) hx hb dX8_tickOnce_684 (by decide) ?_
                    refine kk_lald hx hb hK hq 3 0 rfl rfl 1 rfl (by decide) (by decide) dX8_tickOnce_685 ?_
                    refine W.eq (g2 := F0 m 686 ls [.long w_69, .int 12, .ref aNw]) (by subst efNw_79 efNw_77 efNw_75 efNw_70; rfl) ?_
                    refine kk_Si (As := [.long w_69]) (rest := [.int 12, .ref aNw]) (wr := [(aVs, .inl (cVs, 64, .inr (.inl u_5.2.2.2.2.2.1))), (aSg, .inl (cSg, 128, .inl u_5.2.2.2.2.2.2)), (aM, .inr (8, [.ref aNw, .ref rM_kept, .ref rM_isKept, .ref rM_refused, .int u_5.1, .int u_5.2.1, .ref aVs, .int u_5.2.2.1, .ref aSg, .int u_5.2.2.2.1, .long u_5.2.2.2.2.1, .int M_way, .int M_wish, .long M_moreTick, .long M_moreForce, .int M_runTurns, .long M_runFirst, .long M_runLast, .ref rM_was, .long M_peak, .long M_beside, .int M_besideAt])), (aNw, .inl (cNw, 139, .inr (.inl fNw_79)))]) ⟨hx, hb, hml, hown, hts⟩ (c_X8_signOf l G w_69) (kk_cwS 1 hts hsb wd_568 wd_569 wd_5 wd_570 rfl rfl hd_X8_signOf ⟨Nat.le_of_ble_eq_true rfl, Nat.le_of_ble_eq_true rfl⟩) hA hK hq [] [0, 1, 2, 3] [] rfl rfl rfl (by decide) (by decide) (by decide) rfl hl.1 rfl (Nat.le_of_ble_eq_true rfl) dX8_tickOnce_686 ⟨Nat.zero_le _, Nat.zero_le _⟩ (fun r_109 u_108 H locs h_110 hq => ?_)
                    have er_109 := h_110
                    have hq : kAt G A s [(aVs, .inl (cVs, 64, .inr (.inl u_5.2.2.2.2.2.1))), (aSg, .inl (cSg, 128, .inl u_5.2.2.2.2.2.2)), (aM, .inr (8, [.ref aNw, .ref rM_kept, .ref rM_isKept, .ref rM_refused, .int u_5.1, .int u_5.2.1, .ref aVs, .int u_5.2.2.1, .ref aSg, .int u_5.2.2.2.1, .long u_5.2.2.2.2.1, .int M_way, .int M_wish, .long M_moreTick, .long M_moreForce, .int M_runTurns, .long M_runFirst, .long M_runLast, .ref rM_was, .long M_peak, .long M_beside, .int M_besideAt])), (aNw, .inl (cNw, 139, .inr (.inl fNw_79)))] H locs := hq
                    refine lv_i2l hx hb dX8_tickOnce_689 rfl ?_
                    refine kk_last (ws' := [(aVs, .inl (cVs, 64, .inr (.inl u_5.2.2.2.2.2.1))), (aSg, .inl (cSg, 128, .inl u_5.2.2.2.2.2.2)), (aM, .inr (8, [.ref aNw, .ref rM_kept, .ref rM_isKept, .ref rM_refused, .int u_5.1, .int u_5.2.1, .ref aVs, .int u_5.2.2.1, .ref aSg, .int u_5.2.2.2.1, .long u_5.2.2.2.2.1, .int M_way, .int M_wish, .long M_moreTick, .long M_moreForce, .int M_runTurns, .long M_runFirst, .long M_runLast, .ref rM_was, .long M_peak, .long M_beside, .int M_besideAt])), (aNw, .inl (cNw, 139, .inr (.inl (vp_updL fNw_79 12 r_109.toInt64))))]) hx hb hK hq 3 0 rfl rfl 12 rfl (by decide) (by decide) dX8_tickOnce_690 rfl (fun H locs hq => ?_)
                    obtain ⟨fNw_111, efNw_111⟩ : ∃ z : Nat → Int64, z = vp_updL fNw_79 12 r_109.toInt64 := ⟨_, rfl⟩
                    rw [← efNw_111] at hq
                    refine lv_aload_n hx hb dX8_tickOnce_691 rfl (lv_at hl 7 rfl) ?_
                    refine kk_get (ci := 8) (v := .ref aNw) (C := RX8) (T := TX8) (N := 22) hx hb hts iX8 hown hK hq 2 rfl rfl 0 (by decide) lk0_ rfl dX8_tickOnce_692 ?_
                    refine lv_iconst (v := 0) hx hb dX8_tickOnce_695 (by decide) ?_
                    refine kk_lald hx hb hK hq 3 0 rfl rfl 0 rfl (by decide) (by decide) dX8_tickOnce_696 ?_
                    refine W.eq (g2 := F0 m 697 ls [.long w_76]) (by subst efNw_111 efNw_79 efNw_77; rfl) ?_
                    refine lv_lconst (v := 0) hx hb dX8_tickOnce_697 (by decide) ?_
                    refine kk_join1 (fun (z0_113 : Int32) (H : Heap) (locs : List Loc) (ls : Array Slot) => z0_113 = (if w_76 = 0 then 1 else if x1_1 = 0 then 0 else if fX8_signOf x1_1 = fX8_signOf w_76 then 0 else 1) ∧ lv_has ls 16 [(13, .long x13_87), (11, .long x11_52), (9, .long r_21), (7, .long r_16), (5, .long z0_13), (3, .long r_3), (1, .long x1_1), (0, .ref aM)] ∧ kAt G A s [(aVs, .inl (cVs, 64, .inr (.inl u_5.2.2.2.2.2.1))), (aSg, .inl (cSg, 128, .inl u_5.2.2.2.2.2.2)), (aM, .inr (8, [.ref aNw, .ref rM_kept, .ref rM_isKept, .ref rM_refused, .int u_5.1, .int u_5.2.1, .ref aVs, .int u_5.2.2.1, .ref aSg, .int u_5.2.2.2.1, .long u_5.2.2.2.2.1, .int M_way, .int M_wish, .long M_moreTick, .long M_moreForce, .int M_runTurns, .long M_runFirst, .long M_runLast, .ref rM_was, .long M_peak, .long M_beside, .int M_besideAt])), (aNw, .inl (cNw, 139, .inr (.inl fNw_111)))] H locs) 729 (fun z0_113 => [.int z0_113]) (fun z0_113 H locs ls hv => ?_) (fun J_114 => ?_)
                    · skip
                      obtain ⟨ez0_113, hl, hq⟩ := hv
                      refine lv_istore (lv' := [(15, .int z0_113), (13, .long x13_87), (11, .long x11_52), (9, .long r_21), (7, .long r_16), (5, .long z0_13), (3, .long r_3), (1, .long x1_1), (0, .ref aM)]) hx hb dX8_tickOnce_729 hl (by decide) rfl (fun ls hl => ?_)
                      refine lv_aload_n hx hb dX8_tickOnce_731 rfl (lv_at hl 8 rfl) ?_
                      refine kk_get (ci := 8) (v := .ref aNw) (C := RX8) (T := TX8) (N := 22) hx hb hts iX8 hown hK hq 2 rfl rfl 0 (by decide) lk0_ rfl dX8_tickOnce_732 ?_
                      refine lv_iconst (v := 3) hx hb dX8_tickOnce_735 (by decide) ?_
                      refine lv_iload hx hb dX8_tickOnce_736 (lv_at hl 0 rfl) ?_
                      refine kk_join1 (fun (z0_116 : Int64) (H : Heap) (locs : List Loc) (ls : Array Slot) => z0_116 = (if z0_113 = 0 then (z_43.2 3) + 1 else 0) ∧ lv_has ls 16 [(15, .int z0_113), (13, .long x13_87), (11, .long x11_52), (9, .long r_21), (7, .long r_16), (5, .long z0_13), (3, .long r_3), (1, .long x1_1), (0, .ref aM)] ∧ kAt G A s [(aVs, .inl (cVs, 64, .inr (.inl u_5.2.2.2.2.2.1))), (aSg, .inl (cSg, 128, .inl u_5.2.2.2.2.2.2)), (aM, .inr (8, [.ref aNw, .ref rM_kept, .ref rM_isKept, .ref rM_refused, .int u_5.1, .int u_5.2.1, .ref aVs, .int u_5.2.2.1, .ref aSg, .int u_5.2.2.2.1, .long u_5.2.2.2.2.1, .int M_way, .int M_wish, .long M_moreTick, .long M_moreForce, .int M_runTurns, .long M_runFirst, .long M_runLast, .ref rM_was, .long M_peak, .long M_beside, .int M_besideAt])), (aNw, .inl (cNw, 139, .inr (.inl fNw_111)))] H locs) 753 (fun z0_116 => [.long z0_116, .int 3, .ref aNw]) (fun z0_116 H locs ls hv => ?_) (fun J_117 => ?_)
                      · skip
                        obtain ⟨ez0_116, hl, hq⟩ := hv
                        refine kk_last (ws' := [(aVs, .inl (cVs, 64, .inr (.inl u_5.2.2.2.2.2.1))), (aSg, .inl (cSg, 128, .inl u_5.2.2.2.2.2.2)), (aM, .inr (8, [.ref aNw, .ref rM_kept, .ref rM_isKept, .ref rM_refused, .int u_5.1, .int u_5.2.1, .ref aVs, .int u_5.2.2.1, .ref aSg, .int u_5.2.2.2.1, .long u_5.2.2.2.2.1, .int M_way, .int M_wish, .long M_moreTick, .long M_moreForce, .int M_runTurns, .long M_runFirst, .long M_runLast, .ref rM_was, .long M_peak, .long M_beside, .int M_besideAt])), (aNw, .inl (cNw, 139, .inr (.inl (vp_updL fNw_111 3 z0_116))))]) hx hb hK hq 3 0 rfl rfl 3 rfl (by decide) (by decide) dX8_tickOnce_753 rfl (fun H locs hq => ?_)
                        obtain ⟨fNw_118, efNw_118⟩ : ∃ z : Nat → Int64, z = vp_updL fNw_111 3 z0_116 := ⟨_, rfl⟩
                        rw [← efNw_118] at hq
                        refine lv_aload_n hx hb dX8_tickOnce_754 rfl (lv_at hl 8 rfl) ?_
                        refine kk_get (ci := 8) (v := .ref aNw) (C := RX8) (T := TX8) (N := 22) hx hb hts iX8 hown hK hq 2 rfl rfl 0 (by decide) lk0_ rfl dX8_tickOnce_755 ?_
                        refine lv_iconst (v := 5) hx hb dX8_tickOnce_758 (by decide) ?_
                        refine lv_dup2_11 hx hb dX8_tickOnce_759 rfl rfl ?_
                        refine kk_lald hx hb hK hq 3 0 rfl rfl 5 rfl (by decide) (by decide) dX8_tickOnce_760 ?_
                        refine W.eq (g2 := F0 m 761 ls [.long (z_43.2 5), .int 5, .ref aNw]) (by subst efNw_118 efNw_111 efNw_79 efNw_77 efNw_75 efNw_70 efNw_65 efNw_57 efNw_48; rfl) ?_
                        refine lv_lconst (v := 1) hx hb dX8_tickOnce_761 (by decide) ?_
                        refine lv_ladd hx hb dX8_tickOnce_762 ?_
                        refine lv_topl (fun w_119 ew_119 => ?_)
                        refine kk_last (ws' := [(aVs, .inl (cVs, 64, .inr (.inl u_5.2.2.2.2.2.1))), (aSg, .inl (cSg, 128, .inl u_5.2.2.2.2.2.2)), (aM, .inr (8, [.ref aNw, .ref rM_kept, .ref rM_isKept, .ref rM_refused, .int u_5.1, .int u_5.2.1, .ref aVs, .int u_5.2.2.1, .ref aSg, .int u_5.2.2.2.1, .long u_5.2.2.2.2.1, .int M_way, .int M_wish, .long M_moreTick, .long M_moreForce, .int M_runTurns, .long M_runFirst, .long M_runLast, .ref rM_was, .long M_peak, .long M_beside, .int M_besideAt])), (aNw, .inl (cNw, 139, .inr (.inl (vp_updL fNw_118 5 w_119))))]) hx hb hK hq 3 0 rfl rfl 5 rfl (by decide) (by decide) dX8_tickOnce_763 rfl (fun H locs hq => ?_)
                        obtain ⟨fNw_120, efNw_120⟩ : ∃ z : Nat → Int64, z = vp_updL fNw_118 5 w_119 := ⟨_, rfl⟩
                        rw [← efNw_120] at hq
                        have hf : ((u_5.1, u_5.2.1, u_5.2.2.1, u_5.2.2.2.1, u_5.2.2.2.2.1, M_runTurns, M_runFirst, M_runLast, fNw_120, u_5.2.2.2.2.2.1, u_5.2.2.2.2.2.2) : Int32 × Int32 × Int32 × Int32 × Int64 × Int32 × Int64 × Int64 × (Nat → Int64) × (Nat → Int64) × (Nat → Int32)) = fX8_tickOnce M_at M_fault M_valueMany M_signMany M_tells M_way M_wish M_moreTick M_moreForce M_runTurns M_runFirst M_runLast fNw fVs fSg := by
                          clear hq hl
                          subst efNw_120 ew_119 efNw_118 ez0_116 ez0_113 efNw_111 er_109 ex13_87 er_85 er_81 efNw_79 ew_78 efNw_77 ew_76 efNw_75 ew_74 er_72 efNw_70 ew_69 er_67 efNw_65 ew_64 er_62 er_59 efNw_57 ew_56 er_54 ex11_52 er_50 efNw_48 ew_47 ez0_45 ez_43 efNw_36 ez0_34 efNw_32 ew_31 er_29 efNw_27 ew_26 er_24 er_21 efNw_19 ew_18 er_16 ez0_13 er_10 ex5_8 eu_5 er_6 er_3 ex1_1
                          exact ((if_neg c_83).trans ((if_neg c_88).trans ((if_neg c_89).trans ((if_pos c_107).trans (rfl))))).symm
                        exact kk_ev hx hb hr hlocks hK hq [2, 3, 0, 1] (u_5.1, u_5.2.1, u_5.2.2.1, u_5.2.2.2.1, u_5.2.2.2.2.1, M_runTurns, M_runFirst, M_runLast, fNw_120, u_5.2.2.2.2.2.1, u_5.2.2.2.2.2.2) rfl (by decide) dX8_tickOnce_764 hf
                      · skip
                        refine lv_if_eq (tgt := 745) hx hb dX8_tickOnce_738 (by decide) (fun c_115 => ?_) (fun c_115 => ?_)
                        · skip
                          refine lv_aload_n hx hb dX8_tickOnce_745 rfl (lv_at hl 8 rfl) ?_
                          refine kk_get (ci := 8) (v := .ref aNw) (C := RX8) (T := TX8) (N := 22) hx hb hts iX8 hown hK hq 2 rfl rfl 0 (by decide) lk0_ rfl dX8_tickOnce_746 ?_
                          refine lv_iconst (v := 3) hx hb dX8_tickOnce_749 (by decide) ?_
                          refine kk_lald hx hb hK hq 3 0 rfl rfl 3 rfl (by decide) (by decide) dX8_tickOnce_750 ?_
                          refine W.eq (g2 := F0 m 751 ls [.long (z_43.2 3), .int 3, .ref aNw]) (by subst efNw_111 efNw_79 efNw_77 efNw_75 efNw_70 efNw_65 efNw_57 efNw_48; rfl) ?_
                          refine lv_lconst (v := 1) hx hb dX8_tickOnce_751 (by decide) ?_
                          refine lv_ladd hx hb dX8_tickOnce_752 ?_
                          exact J_117 ((z_43.2 3) + 1) _ _ _ ⟨(if_pos c_115).symm, lv_sub hl [0, 1, 2, 3, 4, 5, 6, 7, 8] rfl, hq⟩
                        · skip
                          refine lv_lconst (v := 0) hx hb dX8_tickOnce_741 (by decide) ?_
                          refine lv_goto (tgt := 753) hx hb dX8_tickOnce_742 (by decide) ?_
                          exact J_117 0 _ _ _ ⟨(if_neg c_115).symm, lv_sub hl [0, 1, 2, 3, 4, 5, 6, 7, 8] rfl, hq⟩
                    · skip
                      refine kk_lc_eq (tgt := 724) hx hb dX8_tickOnce_698 dX8_tickOnce_699 (by decide) (fun c_112 => ?_) (fun c_112 => ?_)
                      · skip
                        refine lv_iconst (v := 1) hx hb dX8_tickOnce_724 (by decide) ?_
                        refine lv_goto (tgt := 729) hx hb dX8_tickOnce_725 (by decide) ?_
                        exact J_114 1 _ _ _ ⟨(if_pos c_112).symm, lv_sub hl [0, 1, 2, 3, 4, 5, 6, 7] rfl, hq⟩
                      · skip
                        refine lv_lload_n hx hb dX8_tickOnce_702 rfl (lv_at hl 6 rfl) ?_
                        refine lv_lconst (v := 0) hx hb dX8_tickOnce_703 (by decide) ?_
                        refine kk_lc_eq (tgt := 728) hx hb dX8_tickOnce_704 dX8_tickOnce_705 (by decide) (fun c_121 => ?_) (fun c_121 => ?_)
                        · skip
                          refine lv_iconst (v := 0) hx hb dX8_tickOnce_728 (by decide) ?_
                          exact J_114 0 _ _ _ ⟨((if_neg c_112).trans (if_pos c_121)).symm, lv_sub hl [0, 1, 2, 3, 4, 5, 6, 7] rfl, hq⟩
                        · skip
                          refine lv_lload_n hx hb dX8_tickOnce_708 rfl (lv_at hl 6 rfl) ?_
                          refine kk_Si (As := [.long x1_1]) (rest := []) (wr := [(aVs, .inl (cVs, 64, .inr (.inl u_5.2.2.2.2.2.1))), (aSg, .inl (cSg, 128, .inl u_5.2.2.2.2.2.2)), (aM, .inr (8, [.ref aNw, .ref rM_kept, .ref rM_isKept, .ref rM_refused, .int u_5.1, .int u_5.2.1, .ref aVs, .int u_5.2.2.1, .ref aSg, .int u_5.2.2.2.1, .long u_5.2.2.2.2.1, .int M_way, .int M_wish, .long M_moreTick, .long M_moreForce, .int M_runTurns, .long M_runFirst, .long M_runLast, .ref rM_was, .long M_peak, .long M_beside, .int M_besideAt])), (aNw, .inl (cNw, 139, .inr (.inl fNw_111)))]) ⟨hx, hb, hml, hown, hts⟩ (c_X8_signOf l G x1_1) (kk_cwS 1 hts hsb wd_568 wd_569 wd_5 wd_570 rfl rfl hd_X8_signOf ⟨Nat.le_of_ble_eq_true rfl, Nat.le_of_ble_eq_true rfl⟩) hA hK hq [] [0, 1, 2, 3] [] rfl rfl rfl (by decide) (by decide) (by decide) rfl hl.1 rfl (Nat.le_of_ble_eq_true rfl) dX8_tickOnce_709 ⟨Nat.zero_le _, Nat.zero_le _⟩ (fun r_123 u_122 H locs h_124 hq => ?_)
                          obtain rfl := h_124
                          have hq : kAt G A s [(aVs, .inl (cVs, 64, .inr (.inl u_5.2.2.2.2.2.1))), (aSg, .inl (cSg, 128, .inl u_5.2.2.2.2.2.2)), (aM, .inr (8, [.ref aNw, .ref rM_kept, .ref rM_isKept, .ref rM_refused, .int u_5.1, .int u_5.2.1, .ref aVs, .int u_5.2.2.1, .ref aSg, .int u_5.2.2.2.1, .long u_5.2.2.2.2.1, .int M_way, .int M_wish, .long M_moreTick, .long M_moreForce, .int M_runTurns, .long M_runFirst, .long M_runLast, .ref rM_was, .long M_peak, .long M_beside, .int M_besideAt])), (aNw, .inl (cNw, 139, .inr (.inl fNw_111)))] H locs := hq
                          refine lv_aload_n hx hb dX8_tickOnce_712 rfl (lv_at hl 7 rfl) ?_
                          refine kk_get (ci := 8) (v := .ref aNw) (C := RX8) (T := TX8) (N := 22) hx hb hts iX8 hown hK hq 2 rfl rfl 0 (by decide) lk0_ rfl dX8_tickOnce_713 ?_
                          refine lv_iconst (v := 0) hx hb dX8_tickOnce_716 (by decide) ?_
                          refine kk_lald hx hb hK hq 3 0 rfl rfl 0 rfl (by decide) (by decide) dX8_tickOnce_717 ?_
                          refine W.eq (g2 := F0 m 718 ls [.long w_76, .int (fX8_signOf x1_1)]) (by subst efNw_111 efNw_79 efNw_77; rfl) ?_
                          refine kk_Si (As := [.long w_76]) (rest := [.int (fX8_signOf x1_1)]) (wr := [(aVs, .inl (cVs, 64, .inr (.inl u_5.2.2.2.2.2.1))), (aSg, .inl (cSg, 128, .inl u_5.2.2.2.2.2.2)), (aM, .inr (8, [.ref aNw, .ref rM_kept, .ref rM_isKept, .ref rM_refused, .int u_5.1, .int u_5.2.1, .ref aVs, .int u_5.2.2.1, .ref aSg, .int u_5.2.2.2.1, .long u_5.2.2.2.2.1, .int M_way, .int M_wish, .long M_moreTick, .long M_moreForce, .int M_runTurns, .long M_runFirst, .long M_runLast, .ref rM_was, .long M_peak, .long M_beside, .int M_besideAt])), (aNw, .inl (cNw, 139, .inr (.inl fNw_111)))]) ⟨hx, hb, hml, hown, hts⟩ (c_X8_signOf l G w_76) (kk_cwS 1 hts hsb wd_568 wd_569 wd_5 wd_570 rfl rfl hd_X8_signOf ⟨Nat.le_of_ble_eq_true rfl, Nat.le_of_ble_eq_true rfl⟩) hA hK hq [] [0, 1, 2, 3] [] rfl rfl rfl (by decide) (by decide) (by decide) rfl hl.1 rfl (Nat.le_of_ble_eq_true rfl) dX8_tickOnce_718 ⟨Nat.zero_le _, Nat.zero_le _⟩ (fun r_126 u_125 H locs h_127 hq => ?_)
                          obtain rfl := h_127
                          have hq : kAt G A s [(aVs, .inl (cVs, 64, .inr (.inl u_5.2.2.2.2.2.1))), (aSg, .inl (cSg, 128, .inl u_5.2.2.2.2.2.2)), (aM, .inr (8, [.ref aNw, .ref rM_kept, .ref rM_isKept, .ref rM_refused, .int u_5.1, .int u_5.2.1, .ref aVs, .int u_5.2.2.1, .ref aSg, .int u_5.2.2.2.1, .long u_5.2.2.2.2.1, .int M_way, .int M_wish, .long M_moreTick, .long M_moreForce, .int M_runTurns, .long M_runFirst, .long M_runLast, .ref rM_was, .long M_peak, .long M_beside, .int M_besideAt])), (aNw, .inl (cNw, 139, .inr (.inl fNw_111)))] H locs := hq
                          refine lv_icmp_eq (tgt := 728) hx hb dX8_tickOnce_721 (by decide) (fun c_128 => ?_) (fun c_128 => ?_)
                          · skip
                            refine lv_iconst (v := 0) hx hb dX8_tickOnce_728 (by decide) ?_
                            exact J_114 0 _ _ _ ⟨((if_neg c_112).trans ((if_neg c_121).trans (if_pos c_128))).symm, lv_sub hl [0, 1, 2, 3, 4, 5, 6, 7] rfl, hq⟩
                          · skip
                            refine lv_iconst (v := 1) hx hb dX8_tickOnce_724 (by decide) ?_
                            refine lv_goto (tgt := 729) hx hb dX8_tickOnce_725 (by decide) ?_
                            exact J_114 1 _ _ _ ⟨((if_neg c_112).trans ((if_neg c_121).trans (if_neg c_128))).symm, lv_sub hl [0, 1, 2, 3, 4, 5, 6, 7] rfl, hq⟩
                  · skip
                    refine lv_aload_n hx hb dX8_tickOnce_649 rfl (lv_at hl 7 rfl) ?_
                    refine kk_get (ci := 8) (v := .ref aNw) (C := RX8) (T := TX8) (N := 22) hx hb hts iX8 hown hK hq 2 rfl rfl 0 (by decide) lk0_ rfl dX8_tickOnce_650 ?_
                    refine lv_bipush (v := 12) hx hb dX8_tickOnce_653 (by decide) ?_
                    refine kk_lald hx hb hK hq 3 0 rfl rfl 12 rfl (by decide) (by decide) dX8_tickOnce_655 ?_
                    refine W.eq (g2 := F0 m 656 ls [.long (z_43.2 12)]) (by subst efNw_79 efNw_77 efNw_75 efNw_70 efNw_65 efNw_57 efNw_48; rfl) ?_
                    refine lv_aload_n hx hb dX8_tickOnce_656 rfl (lv_at hl 7 rfl) ?_
                    refine kk_get (ci := 8) (v := .ref aNw) (C := RX8) (T := TX8) (N := 22) hx hb hts iX8 hown hK hq 2 rfl rfl 0 (by decide) lk0_ rfl dX8_tickOnce_657 ?_
                    refine lv_iconst (v := 1) hx hb dX8_tickOnce_660 (by decide) ?_
                    refine kk_lald hx hb hK hq 3 0 rfl rfl 1 rfl (by decide) (by decide) dX8_tickOnce_661 ?_
                    refine W.eq (g2 := F0 m 662 ls [.long w_69, .long (z_43.2 12)]) (by subst efNw_79 efNw_77 efNw_75 efNw_70; rfl) ?_
                    refine kk_Si (As := [.long w_69]) (rest := [.long (z_43.2 12)]) (wr := [(aVs, .inl (cVs, 64, .inr (.inl u_5.2.2.2.2.2.1))), (aSg, .inl (cSg, 128, .inl u_5.2.2.2.2.2.2)), (aM, .inr (8, [.ref aNw, .ref rM_kept, .ref rM_isKept, .ref rM_refused, .int u_5.1, .int u_5.2.1, .ref aVs, .int u_5.2.2.1, .ref aSg, .int u_5.2.2.2.1, .long u_5.2.2.2.2.1, .int M_way, .int M_wish, .long M_moreTick, .long M_moreForce, .int M_runTurns, .long M_runFirst, .long M_runLast, .ref rM_was, .long M_peak, .long M_beside, .int M_besideAt])), (aNw, .inl (cNw, 139, .inr (.inl fNw_79)))]) ⟨hx, hb, hml, hown, hts⟩ (c_X8_signOf l G w_69) (kk_cwS 1 hts hsb wd_568 wd_569 wd_5 wd_570 rfl rfl hd_X8_signOf ⟨Nat.le_of_ble_eq_true rfl, Nat.le_of_ble_eq_true rfl⟩) hA hK hq [] [0, 1, 2, 3] [] rfl rfl rfl (by decide) (by decide) (by decide) rfl hl.1 rfl (Nat.le_of_ble_eq_true rfl) dX8_tickOnce_662 ⟨Nat.zero_le _, Nat.zero_le _⟩ (fun r_130 u_129 H locs h_131 hq => ?_)
                    have er_130 := h_131
                    have hq : kAt G A s [(aVs, .inl (cVs, 64, .inr (.inl u_5.2.2.2.2.2.1))), (aSg, .inl (cSg, 128, .inl u_5.2.2.2.2.2.2)), (aM, .inr (8, [.ref aNw, .ref rM_kept, .ref rM_isKept, .ref rM_refused, .int u_5.1, .int u_5.2.1, .ref aVs, .int u_5.2.2.1, .ref aSg, .int u_5.2.2.2.1, .long u_5.2.2.2.2.1, .int M_way, .int M_wish, .long M_moreTick, .long M_moreForce, .int M_runTurns, .long M_runFirst, .long M_runLast, .ref rM_was, .long M_peak, .long M_beside, .int M_besideAt])), (aNw, .inl (cNw, 139, .inr (.inl fNw_79)))] H locs := hq
                    refine lv_i2l hx hb dX8_tickOnce_665 rfl ?_
                    refine kk_lc_eq (tgt := 674) hx hb dX8_tickOnce_666 dX8_tickOnce_667 (by decide) (fun c_132 => ?_) (fun c_132 => ?_)
                    · skip
                      refine lv_aload_n hx hb dX8_tickOnce_674 rfl (lv_at hl 7 rfl) ?_
                      refine kk_get (ci := 8) (v := .ref aNw) (C := RX8) (T := TX8) (N := 22) hx hb hts iX8 hown hK hq 2 rfl rfl 0 (by decide) lk0_ rfl dX8_tickOnce_675 ?_
                      refine lv_bipush (v := 12) hx hb dX8_tickOnce_678 (by decide) ?_
                      refine lv_aload_n hx hb dX8_tickOnce_680 rfl (lv_at hl 7 rfl) ?_
                      refine kk_get (ci := 8) (v := .ref aNw) (C := RX8) (T := TX8) (N := 22) hx hb hts iX8 hown hK hq 2 rfl rfl 0 (by decide) lk0_ rfl dX8_tickOnce_681 ?_
                      refine lv_iconst (v := 1) hx hb dX8_tickOnce_684 (by decide) ?_
                      refine kk_lald hx hb hK hq 3 0 rfl rfl 1 rfl (by decide) (by decide) dX8_tickOnce_685 ?_
                      refine W.eq (g2 := F0 m 686 ls [.long w_69, .int 12, .ref aNw]) (by subst efNw_79 efNw_77 efNw_75 efNw_70; rfl) ?_
                      refine kk_Si (As := [.long w_69]) (rest := [.int 12, .ref aNw]) (wr := [(aVs, .inl (cVs, 64, .inr (.inl u_5.2.2.2.2.2.1))), (aSg, .inl (cSg, 128, .inl u_5.2.2.2.2.2.2)), (aM, .inr (8, [.ref aNw, .ref rM_kept, .ref rM_isKept, .ref rM_refused, .int u_5.1, .int u_5.2.1, .ref aVs, .int u_5.2.2.1, .ref aSg, .int u_5.2.2.2.1, .long u_5.2.2.2.2.1, .int M_way, .int M_wish, .long M_moreTick, .long M_moreForce, .int M_runTurns, .long M_runFirst, .long M_runLast, .ref rM_was, .long M_peak, .long M_beside, .int M_besideAt])), (aNw, .inl (cNw, 139, .inr (.inl fNw_79)))]) ⟨hx, hb, hml, hown, hts⟩ (c_X8_signOf l G w_69) (kk_cwS 1 hts hsb wd_568 wd_569 wd_5 wd_570 rfl rfl hd_X8_signOf ⟨Nat.le_of_ble_eq_true rfl, Nat.le_of_ble_eq_true rfl⟩) hA hK hq [] [0, 1, 2, 3] [] rfl rfl rfl (by decide) (by decide) (by decide) rfl hl.1 rfl (Nat.le_of_ble_eq_true rfl) dX8_tickOnce_686 ⟨Nat.zero_le _, Nat.zero_le _⟩ (fun r_134 u_133 H locs h_135 hq => ?_)
                      have er_134 := h_135
                      have hq : kAt G A s [(aVs, .inl (cVs, 64, .inr (.inl u_5.2.2.2.2.2.1))), (aSg, .inl (cSg, 128, .inl u_5.2.2.2.2.2.2)), (aM, .inr (8, [.ref aNw, .ref rM_kept, .ref rM_isKept, .ref rM_refused, .int u_5.1, .int u_5.2.1, .ref aVs, .int u_5.2.2.1, .ref aSg, .int u_5.2.2.2.1, .long u_5.2.2.2.2.1, .int M_way, .int M_wish, .long M_moreTick, .long M_moreForce, .int M_runTurns, .long M_runFirst, .long M_runLast, .ref rM_was, .long M_peak, .long M_beside, .int M_besideAt])), (aNw, .inl (cNw, 139, .inr (.inl fNw_79)))] H locs := hq
                      refine lv_i2l hx hb dX8_tickOnce_689 rfl ?_
                      refine kk_last (ws' := [(aVs, .inl (cVs, 64, .inr (.inl u_5.2.2.2.2.2.1))), (aSg, .inl (cSg, 128, .inl u_5.2.2.2.2.2.2)), (aM, .inr (8, [.ref aNw, .ref rM_kept, .ref rM_isKept, .ref rM_refused, .int u_5.1, .int u_5.2.1, .ref aVs, .int u_5.2.2.1, .ref aSg, .int u_5.2.2.2.1, .long u_5.2.2.2.2.1, .int M_way, .int M_wish, .long M_moreTick, .long M_moreForce, .int M_runTurns, .long M_runFirst, .long M_runLast, .ref rM_was, .long M_peak, .long M_beside, .int M_besideAt])), (aNw, .inl (cNw, 139, .inr (.inl (vp_updL fNw_79 12 r_134.toInt64))))]) hx hb hK hq 3 0 rfl rfl 12 rfl (by decide) (by decide) dX8_tickOnce_690 rfl (fun H locs hq => ?_)
                      obtain ⟨fNw_136, efNw_136⟩ : ∃ z : Nat → Int64, z = vp_updL fNw_79 12 r_134.toInt64 := ⟨_, rfl⟩
                      rw [← efNw_136] at hq
                      refine lv_aload_n hx hb dX8_tickOnce_691 rfl (lv_at hl 7 rfl) ?_
                      refine kk_get (ci := 8) (v := .ref aNw) (C := RX8) (T := TX8) (N := 22) hx hb hts iX8 hown hK hq 2 rfl rfl 0 (by decide) lk0_ rfl dX8_tickOnce_692 ?_
                      refine lv_iconst (v := 0) hx hb dX8_tickOnce_695 (by decide) ?_
                      refine kk_lald hx hb hK hq 3 0 rfl rfl 0 rfl (by decide) (by decide) dX8_tickOnce_696 ?_
                      refine W.eq (g2 := F0 m 697 ls [.long w_76]) (by subst efNw_136 efNw_79 efNw_77; rfl) ?_
                      refine lv_lconst (v := 0) hx hb dX8_tickOnce_697 (by decide) ?_
                      refine kk_join1 (fun (z0_138 : Int32) (H : Heap) (locs : List Loc) (ls : Array Slot) => z0_138 = (if w_76 = 0 then 1 else if x1_1 = 0 then 0 else if fX8_signOf x1_1 = fX8_signOf w_76 then 0 else 1) ∧ lv_has ls 16 [(13, .long x13_87), (11, .long x11_52), (9, .long r_21), (7, .long r_16), (5, .long z0_13), (3, .long r_3), (1, .long x1_1), (0, .ref aM)] ∧ kAt G A s [(aVs, .inl (cVs, 64, .inr (.inl u_5.2.2.2.2.2.1))), (aSg, .inl (cSg, 128, .inl u_5.2.2.2.2.2.2)), (aM, .inr (8, [.ref aNw, .ref rM_kept, .ref rM_isKept, .ref rM_refused, .int u_5.1, .int u_5.2.1, .ref aVs, .int u_5.2.2.1, .ref aSg, .int u_5.2.2.2.1, .long u_5.2.2.2.2.1, .int M_way, .int M_wish, .long M_moreTick, .long M_moreForce, .int M_runTurns, .long M_runFirst, .long M_runLast, .ref rM_was, .long M_peak, .long M_beside, .int M_besideAt])), (aNw, .inl (cNw, 139, .inr (.inl fNw_136)))] H locs) 729 (fun z0_138 => [.int z0_138]) (fun z0_138 H locs ls hv => ?_) (fun J_139 => ?_)
                      · skip
                        obtain ⟨ez0_138, hl, hq⟩ := hv
                        refine lv_istore (lv' := [(15, .int z0_138), (13, .long x13_87), (11, .long x11_52), (9, .long r_21), (7, .long r_16), (5, .long z0_13), (3, .long r_3), (1, .long x1_1), (0, .ref aM)]) hx hb dX8_tickOnce_729 hl (by decide) rfl (fun ls hl => ?_)
                        refine lv_aload_n hx hb dX8_tickOnce_731 rfl (lv_at hl 8 rfl) ?_
                        refine kk_get (ci := 8) (v := .ref aNw) (C := RX8) (T := TX8) (N := 22) hx hb hts iX8 hown hK hq 2 rfl rfl 0 (by decide) lk0_ rfl dX8_tickOnce_732 ?_
                        refine lv_iconst (v := 3) hx hb dX8_tickOnce_735 (by decide) ?_
                        refine lv_iload hx hb dX8_tickOnce_736 (lv_at hl 0 rfl) ?_
                        refine kk_join1 (fun (z0_141 : Int64) (H : Heap) (locs : List Loc) (ls : Array Slot) => z0_141 = (if z0_138 = 0 then (z_43.2 3) + 1 else 0) ∧ lv_has ls 16 [(15, .int z0_138), (13, .long x13_87), (11, .long x11_52), (9, .long r_21), (7, .long r_16), (5, .long z0_13), (3, .long r_3), (1, .long x1_1), (0, .ref aM)] ∧ kAt G A s [(aVs, .inl (cVs, 64, .inr (.inl u_5.2.2.2.2.2.1))), (aSg, .inl (cSg, 128, .inl u_5.2.2.2.2.2.2)), (aM, .inr (8, [.ref aNw, .ref rM_kept, .ref rM_isKept, .ref rM_refused, .int u_5.1, .int u_5.2.1, .ref aVs, .int u_5.2.2.1, .ref aSg, .int u_5.2.2.2.1, .long u_5.2.2.2.2.1, .int M_way, .int M_wish, .long M_moreTick, .long M_moreForce, .int M_runTurns, .long M_runFirst, .long M_runLast, .ref rM_was, .long M_peak, .long M_beside, .int M_besideAt])), (aNw, .inl (cNw, 139, .inr (.inl fNw_136)))] H locs) 753 (fun z0_141 => [.long z0_141, .int 3, .ref aNw]) (fun z0_141 H locs ls hv => ?_) (fun J_142 => ?_)
                        · skip
                          obtain ⟨ez0_141, hl, hq⟩ := hv
                          refine kk_last (ws' := [(aVs, .inl (cVs, 64, .inr (.inl u_5.2.2.2.2.2.1))), (aSg, .inl (cSg, 128, .inl u_5.2.2.2.2.2.2)), (aM, .inr (8, [.ref aNw, .ref rM_kept, .ref rM_isKept, .ref rM_refused, .int u_5.1, .int u_5.2.1, .ref aVs, .int u_5.2.2.1, .ref aSg, .int u_5.2.2.2.1, .long u_5.2.2.2.2.1, .int M_way, .int M_wish, .long M_moreTick, .long M_moreForce, .int M_runTurns, .long M_runFirst, .long M_runLast, .ref rM_was, .long M_peak, .long M_beside, .int M_besideAt])), (aNw, .inl (cNw, 139, .inr (.inl (vp_updL fNw_136 3 z0_141))))]) hx hb hK hq 3 0 rfl rfl 3 rfl (by decide) (by decide) dX8_tickOnce_753 rfl (fun H locs hq => ?_)
                          obtain ⟨fNw_143, efNw_143⟩ : ∃ z : Nat → Int64, z = vp_updL fNw_136 3 z0_141 := ⟨_, rfl⟩
                          rw [← efNw_143] at hq
                          refine lv_aload_n hx hb dX8_tickOnce_754 rfl (lv_at hl 8 rfl) ?_
                          refine kk_get (ci := 8) (v := .ref aNw) (C := RX8) (T := TX8) (N := 22) hx hb hts iX8 hown hK hq 2 rfl rfl 0 (by decide) lk0_ rfl dX8_tickOnce_755 ?_
                          refine lv_iconst (v := 5) hx hb dX8_tickOnce_758 (by decide) ?_
                          refine lv_dup2_11 hx hb dX8_tickOnce_759 rfl rfl ?_
                          refine kk_lald hx hb hK hq 3 0 rfl rfl 5 rfl (by decide) (by decide) dX8_tickOnce_760 ?_
                          refine W.eq (g2 := F0 m 761 ls [.long (z_43.2 5), .int 5, .ref aNw]) (by subst efNw_143 efNw_136 efNw_79 efNw_77 efNw_75 efNw_70 efNw_65 efNw_57 efNw_48; rfl) ?_
                          refine lv_lconst (v := 1) hx hb dX8_tickOnce_761 (by decide) ?_
                          refine lv_ladd hx hb dX8_tickOnce_762 ?_
                          refine lv_topl (fun w_144 ew_144 => ?_)
                          refine kk_last (ws' := [(aVs, .inl (cVs, 64, .inr (.inl u_5.2.2.2.2.2.1))), (aSg, .inl (cSg, 128, .inl u_5.2.2.2.2.2.2)), (aM, .inr (8, [.ref aNw, .ref rM_kept, .ref rM_isKept, .ref rM_refused, .int u_5.1, .int u_5.2.1, .ref aVs, .int u_5.2.2.1, .ref aSg, .int u_5.2.2.2.1, .long u_5.2.2.2.2.1, .int M_way, .int M_wish, .long M_moreTick, .long M_moreForce, .int M_runTurns, .long M_runFirst, .long M_runLast, .ref rM_was, .long M_peak, .long M_beside, .int M_besideAt])), (aNw, .inl (cNw, 139, .inr (.inl (vp_updL fNw_143 5 w_144))))]) hx hb hK hq 3 0 rfl rfl 5 rfl (by decide) (by decide) dX8_tickOnce_763 rfl (fun H locs hq => ?_)
                          obtain ⟨fNw_145, efNw_145⟩ : ∃ z : Nat → Int64, z = vp_updL fNw_143 5 w_144 := ⟨_, rfl⟩
                          rw [← efNw_145] at hq
                          have hf : ((u_5.1, u_5.2.1, u_5.2.2.1, u_5.2.2.2.1, u_5.2.2.2.2.1, M_runTurns, M_runFirst, M_runLast, fNw_145, u_5.2.2.2.2.2.1, u_5.2.2.2.2.2.2) : Int32 × Int32 × Int32 × Int32 × Int64 × Int32 × Int64 × Int64 × (Nat → Int64) × (Nat → Int64) × (Nat → Int32)) = fX8_tickOnce M_at M_fault M_valueMany M_signMany M_tells M_way M_wish M_moreTick M_moreForce M_runTurns M_runFirst M_runLast fNw fVs fSg := by
                            clear hq hl
                            subst efNw_145 ew_144 efNw_143 ez0_141 ez0_138 efNw_136 er_134 er_130 ex13_87 er_85 er_81 efNw_79 ew_78 efNw_77 ew_76 efNw_75 ew_74 er_72 efNw_70 ew_69 er_67 efNw_65 ew_64 er_62 er_59 efNw_57 ew_56 er_54 ex11_52 er_50 efNw_48 ew_47 ez0_45 ez_43 efNw_36 ez0_34 efNw_32 ew_31 er_29 efNw_27 ew_26 er_24 er_21 efNw_19 ew_18 er_16 ez0_13 er_10 ex5_8 eu_5 er_6 er_3 ex1_1
                            exact ((if_neg c_83).trans ((if_neg c_88).trans ((if_neg c_89).trans ((if_neg c_107).trans ((if_pos c_132).trans (rfl)))))).symm
                          exact kk_ev hx hb hr hlocks hK hq [2, 3, 0, 1] (u_5.1, u_5.2.1, u_5.2.2.1, u_5.2.2.2.1, u_5.2.2.2.2.1, M_runTurns, M_runFirst, M_runLast, fNw_145, u_5.2.2.2.2.2.1, u_5.2.2.2.2.2.2) rfl (by decide) dX8_tickOnce_764 hf
                        · skip
                          refine lv_if_eq (tgt := 745) hx hb dX8_tickOnce_738 (by decide) (fun c_140 => ?_) (fun c_140 => ?_)
                          · skip
                            refine lv_aload_n hx hb dX8_tickOnce_745 rfl (lv_at hl 8 rfl) ?_
                            refine kk_get (ci := 8) (v := .ref aNw) (C := RX8) (T := TX8) (N := 22) hx hb hts iX8 hown hK hq 2 rfl rfl 0 (by decide) lk0_ rfl dX8_tickOnce_746 ?_
                            refine lv_iconst (v := 3) hx hb dX8_tickOnce_749 (by decide) ?_
                            refine kk_lald hx hb hK hq 3 0 rfl rfl 3 rfl (by decide) (by decide) dX8_tickOnce_750 ?_
                            refine W.eq (g2 := F0 m 751 ls [.long (z_43.2 3), .int 3, .ref aNw]) (by subst efNw_136 efNw_79 efNw_77 efNw_75 efNw_70 efNw_65 efNw_57 efNw_48; rfl) ?_
                            refine lv_lconst (v := 1) hx hb dX8_tickOnce_751 (by decide) ?_
                            refine lv_ladd hx hb dX8_tickOnce_752 ?_
                            exact J_142 ((z_43.2 3) + 1) _ _ _ ⟨(if_pos c_140).symm, lv_sub hl [0, 1, 2, 3, 4, 5, 6, 7, 8] rfl, hq⟩
                          · skip
                            refine lv_lconst (v := 0) hx hb dX8_tickOnce_741 (by decide) ?_
                            refine lv_goto (tgt := 753) hx hb dX8_tickOnce_742 (by decide) ?_
                            exact J_142 0 _ _ _ ⟨(if_neg c_140).symm, lv_sub hl [0, 1, 2, 3, 4, 5, 6, 7, 8] rfl, hq⟩
                      · skip
                        refine kk_lc_eq (tgt := 724) hx hb dX8_tickOnce_698 dX8_tickOnce_699 (by decide) (fun c_137 => ?_) (fun c_137 => ?_)
                        · skip
                          refine lv_iconst (v := 1) hx hb dX8_tickOnce_724 (by decide) ?_
                          refine lv_goto (tgt := 729) hx hb dX8_tickOnce_725 (by decide) ?_
                          exact J_139 1 _ _ _ ⟨(if_pos c_137).symm, lv_sub hl [0, 1, 2, 3, 4, 5, 6, 7] rfl, hq⟩
                        · skip
                          refine lv_lload_n hx hb dX8_tickOnce_702 rfl (lv_at hl 6 rfl) ?_
                          refine lv_lconst (v := 0) hx hb dX8_tickOnce_703 (by decide) ?_
                          refine kk_lc_eq (tgt := 728) hx hb dX8_tickOnce_704 dX8_tickOnce_705 (by decide) (fun c_146 => ?_) (fun c_146 => ?_)
                          · skip
                            refine lv_iconst (v := 0) hx hb dX8_tickOnce_728 (by decide) ?_
                            exact J_139 0 _ _ _ ⟨((if_neg c_137).trans (if_pos c_146)).symm, lv_sub hl [0, 1, 2, 3, 4, 5, 6, 7] rfl, hq⟩
                          · skip
                            refine lv_lload_n hx hb dX8_tickOnce_708 rfl (lv_at hl 6 rfl) ?_
                            refine kk_Si (As := [.long x1_1]) (rest := []) (wr := [(aVs, .inl (cVs, 64, .inr (.inl u_5.2.2.2.2.2.1))), (aSg, .inl (cSg, 128, .inl u_5.2.2.2.2.2.2)), (aM, .inr (8, [.ref aNw, .ref rM_kept, .ref rM_isKept, .ref rM_refused, .int u_5.1, .int u_5.2.1, .ref aVs, .int u_5.2.2.1, .ref aSg, .int u_5.2.2.2.1, .long u_5.2.2.2.2.1, .int M_way, .int M_wish, .long M_moreTick, .long M_moreForce, .int M_runTurns, .long M_runFirst, .long M_runLast, .ref rM_was, .long M_peak, .long M_beside, .int M_besideAt])), (aNw, .inl (cNw, 139, .inr (.inl fNw_136)))]) ⟨hx, hb, hml, hown, hts⟩ (c_X8_signOf l G x1_1) (kk_cwS 1 hts hsb wd_568 wd_569 wd_5 wd_570 rfl rfl hd_X8_signOf ⟨Nat.le_of_ble_eq_true rfl, Nat.le_of_ble_eq_true rfl⟩) hA hK hq [] [0, 1, 2, 3] [] rfl rfl rfl (by decide) (by decide) (by decide) rfl hl.1 rfl (Nat.le_of_ble_eq_true rfl) dX8_tickOnce_709 ⟨Nat.zero_le _, Nat.zero_le _⟩ (fun r_148 u_147 H locs h_149 hq => ?_)
                            obtain rfl := h_149
                            have hq : kAt G A s [(aVs, .inl (cVs, 64, .inr (.inl u_5.2.2.2.2.2.1))), (aSg, .inl (cSg, 128, .inl u_5.2.2.2.2.2.2)), (aM, .inr (8, [.ref aNw, .ref rM_kept, .ref rM_isKept, .ref rM_refused, .int u_5.1, .int u_5.2.1, .ref aVs, .int u_5.2.2.1, .ref aSg, .int u_5.2.2.2.1, .long u_5.2.2.2.2.1, .int M_way, .int M_wish, .long M_moreTick, .long M_moreForce, .int M_runTurns, .long M_runFirst, .long M_runLast, .ref rM_was, .long M_peak, .long M_beside, .int M_besideAt])), (aNw, .inl (cNw, 139, .inr (.inl fNw_136)))] H locs := hq
                            refine lv_aload_n hx hb dX8_tickOnce_712 rfl (lv_at hl 7 rfl) ?_
                            refine kk_get (ci := 8) (v := .ref aNw) (C := RX8) (T := TX8) (N := 22) hx hb hts iX8 hown hK hq 2 rfl rfl 0 (by decide) lk0_ rfl dX8_tickOnce_713 ?_
                            refine lv_iconst (v := 0) hx hb dX8_tickOnce_716 (by decide) ?_
                            refine kk_lald hx hb hK hq 3 0 rfl rfl 0 rfl (by decide) (by decide) dX8_tickOnce_717 ?_
                            refine W.eq (g2 := F0 m 718 ls [.long w_76, .int (fX8_signOf x1_1)]) (by subst efNw_136 efNw_79 efNw_77; rfl) ?_
                            refine kk_Si (As := [.long w_76]) (rest := [.int (fX8_signOf x1_1)]) (wr := [(aVs, .inl (cVs, 64, .inr (.inl u_5.2.2.2.2.2.1))), (aSg, .inl (cSg, 128, .inl u_5.2.2.2.2.2.2)), (aM, .inr (8, [.ref aNw, .ref rM_kept, .ref rM_isKept, .ref rM_refused, .int u_5.1, .int u_5.2.1, .ref aVs, .int u_5.2.2.1, .ref aSg, .int u_5.2.2.2.1, .long u_5.2.2.2.2.1, .int M_way, .int M_wish, .long M_moreTick, .long M_moreForce, .int M_runTurns, .long M_runFirst, .long M_runLast, .ref rM_was, .long M_peak, .long M_beside, .int M_besideAt])), (aNw, .inl (cNw, 139, .inr (.inl fNw_136)))]) ⟨hx, hb, hml, hown, hts⟩ (c_X8_signOf l G w_76) (kk_cwS 1 hts hsb wd_568 wd_569 wd_5 wd_570 rfl rfl hd_X8_signOf ⟨Nat.le_of_ble_eq_true rfl, Nat.le_of_ble_eq_true rfl⟩) hA hK hq [] [0, 1, 2, 3] [] rfl rfl rfl (by decide) (by decide) (by decide) rfl hl.1 rfl (Nat.le_of_ble_eq_true rfl) dX8_tickOnce_718 ⟨Nat.zero_le _, Nat.zero_le _⟩ (fun r_151 u_150 H locs h_152 hq => ?_)
                            obtain rfl := h_152
                            have hq : kAt G A s [(aVs, .inl (cVs, 64, .inr (.inl u_5.2.2.2.2.2.1))), (aSg, .inl (cSg, 128, .inl u_5.2.2.2.2.2.2)), (aM, .inr (8, [.ref aNw, .ref rM_kept, .ref rM_isKept, .ref rM_refused, .int u_5.1, .int u_5.2.1, .ref aVs, .int u_5.2.2.1, .ref aSg, .int u_5.2.2.2.1, .long u_5.2.2.2.2.1, .int M_way, .int M_wish, .long M_moreTick, .long M_moreForce, .int M_runTurns, .long M_runFirst, .long M_runLast, .ref rM_was, .long M_peak, .long M_beside, .int M_besideAt])), (aNw, .inl (cNw, 139, .inr (.inl fNw_136)))] H locs := hq
                            refine lv_icmp_eq (tgt := 728) hx hb dX8_tickOnce_721 (by decide) (fun c_153 => ?_) (fun c_153 => ?_)
                            · skip
                              refine lv_iconst (v := 0) hx hb dX8_tickOnce_728 (by decide) ?_
                              exact J_139 0 _ _ _ ⟨((if_neg c_137).trans ((if_neg c_146).trans (if_pos c_153))).symm, lv_sub hl [0, 1, 2, 3, 4, 5, 6, 7] rfl, hq⟩
                            · skip
                              refine lv_iconst (v := 1) hx hb dX8_tickOnce_724 (by decide) ?_
                              refine lv_goto (tgt := 729) hx hb dX8_tickOnce_725 (by decide) ?_
                              exact J_139 1 _ _ _ ⟨((if_neg c_137).trans ((if_neg c_146).trans (if_neg c_153))).symm, lv_sub hl [0, 1, 2, 3, 4, 5, 6, 7] rfl, hq⟩
                    · skip
                      refine lv_aload_n hx hb dX8_tickOnce_670 rfl (lv_at hl 7 rfl) ?_
                      refine kk_Vv (As := []) (rest := []) (wr := [(aVs, .inl (cVs, 64, .inr (.inl u_5.2.2.2.2.2.1))), (aSg, .inl (cSg, 128, .inl u_5.2.2.2.2.2.2))]) ⟨hx, hb, hml, hown, hts⟩ (c_X8_turned l G aM aNw rM_kept rM_isKept rM_refused aVs aSg rM_was cNw u_5.1 u_5.2.1 u_5.2.2.1 u_5.2.2.2.1 u_5.2.2.2.2.1 M_way M_wish M_moreTick M_moreForce M_runTurns M_runFirst M_runLast M_peak M_beside M_besideAt fNw_79 (AG_6 wn (by assumption))) (kk_cwV 0 hts hsb wd_560 wd_561 wd_562 wd_5 wd_563 rfl rfl hd_X8_turned ⟨Nat.le_of_ble_eq_true rfl, Nat.le_of_ble_eq_true rfl⟩) hA hK hq [2, 3] [0, 1] [0] rfl rfl rfl (by decide) (by decide) (by decide) 0 8 rfl rfl rfl rfl hl.1 rfl (Nat.le_of_ble_eq_true rfl) dX8_tickOnce_671 ⟨Nat.zero_le _, Nat.zero_le _⟩ (fun u_154 H locs h_156 hq => ?_)
                      have eu_154 := h_156
                      have hq : kAt G A s [(aVs, .inl (cVs, 64, .inr (.inl u_5.2.2.2.2.2.1))), (aSg, .inl (cSg, 128, .inl u_5.2.2.2.2.2.2)), (aM, .inr (8, [.ref aNw, .ref rM_kept, .ref rM_isKept, .ref rM_refused, .int u_5.1, .int u_5.2.1, .ref aVs, .int u_5.2.2.1, .ref aSg, .int u_5.2.2.2.1, .long u_5.2.2.2.2.1, .int M_way, .int M_wish, .long M_moreTick, .long M_moreForce, .int u_154.1, .long u_154.2.1, .long u_154.2.2.1, .ref rM_was, .long M_peak, .long M_beside, .int M_besideAt])), (aNw, .inl (cNw, 139, .inr (.inl u_154.2.2.2)))] H locs := hq
                      refine lv_aload_n hx hb dX8_tickOnce_674 rfl (lv_at hl 7 rfl) ?_
                      refine kk_get (ci := 8) (v := .ref aNw) (C := RX8) (T := TX8) (N := 22) hx hb hts iX8 hown hK hq 2 rfl rfl 0 (by decide) lk0_ rfl dX8_tickOnce_675 ?_
                      refine lv_bipush (v := 12) hx hb dX8_tickOnce_678 (by decide) ?_
                      refine lv_aload_n hx hb dX8_tickOnce_680 rfl (lv_at hl 7 rfl) ?_
                      refine kk_get (ci := 8) (v := .ref aNw) (C := RX8) (T := TX8) (N := 22) hx hb hts iX8 hown hK hq 2 rfl rfl 0 (by decide) lk0_ rfl dX8_tickOnce_681 ?_
                      refine lv_iconst (v := 1) hx hb dX8_tickOnce_684 (by decide) ?_
                      refine kk_lald hx hb hK hq 3 0 rfl rfl 1 rfl (by decide) (by decide) dX8_tickOnce_685 ?_
                      refine kk_Si (As := [.long (u_154.2.2.2 1)]) (rest := [.int 12, .ref aNw]) (wr := [(aVs, .inl (cVs, 64, .inr (.inl u_5.2.2.2.2.2.1))), (aSg, .inl (cSg, 128, .inl u_5.2.2.2.2.2.2)), (aM, .inr (8, [.ref aNw, .ref rM_kept, .ref rM_isKept, .ref rM_refused, .int u_5.1, .int u_5.2.1, .ref aVs, .int u_5.2.2.1, .ref aSg, .int u_5.2.2.2.1, .long u_5.2.2.2.2.1, .int M_way, .int M_wish, .long M_moreTick, .long M_moreForce, .int u_154.1, .long u_154.2.1, .long u_154.2.2.1, .ref rM_was, .long M_peak, .long M_beside, .int M_besideAt])), (aNw, .inl (cNw, 139, .inr (.inl u_154.2.2.2)))]) ⟨hx, hb, hml, hown, hts⟩ (c_X8_signOf l G (u_154.2.2.2 1)) (kk_cwS 1 hts hsb wd_568 wd_569 wd_5 wd_570 rfl rfl hd_X8_signOf ⟨Nat.le_of_ble_eq_true rfl, Nat.le_of_ble_eq_true rfl⟩) hA hK hq [] [0, 1, 2, 3] [] rfl rfl rfl (by decide) (by decide) (by decide) rfl hl.1 rfl (Nat.le_of_ble_eq_true rfl) dX8_tickOnce_686 ⟨Nat.zero_le _, Nat.zero_le _⟩ (fun r_158 u_157 H locs h_159 hq => ?_)
                      have er_158 := h_159
                      have hq : kAt G A s [(aVs, .inl (cVs, 64, .inr (.inl u_5.2.2.2.2.2.1))), (aSg, .inl (cSg, 128, .inl u_5.2.2.2.2.2.2)), (aM, .inr (8, [.ref aNw, .ref rM_kept, .ref rM_isKept, .ref rM_refused, .int u_5.1, .int u_5.2.1, .ref aVs, .int u_5.2.2.1, .ref aSg, .int u_5.2.2.2.1, .long u_5.2.2.2.2.1, .int M_way, .int M_wish, .long M_moreTick, .long M_moreForce, .int u_154.1, .long u_154.2.1, .long u_154.2.2.1, .ref rM_was, .long M_peak, .long M_beside, .int M_besideAt])), (aNw, .inl (cNw, 139, .inr (.inl u_154.2.2.2)))] H locs := hq
                      refine lv_i2l hx hb dX8_tickOnce_689 rfl ?_
                      refine kk_last (ws' := [(aVs, .inl (cVs, 64, .inr (.inl u_5.2.2.2.2.2.1))), (aSg, .inl (cSg, 128, .inl u_5.2.2.2.2.2.2)), (aM, .inr (8, [.ref aNw, .ref rM_kept, .ref rM_isKept, .ref rM_refused, .int u_5.1, .int u_5.2.1, .ref aVs, .int u_5.2.2.1, .ref aSg, .int u_5.2.2.2.1, .long u_5.2.2.2.2.1, .int M_way, .int M_wish, .long M_moreTick, .long M_moreForce, .int u_154.1, .long u_154.2.1, .long u_154.2.2.1, .ref rM_was, .long M_peak, .long M_beside, .int M_besideAt])), (aNw, .inl (cNw, 139, .inr (.inl (vp_updL u_154.2.2.2 12 r_158.toInt64))))]) hx hb hK hq 3 0 rfl rfl 12 rfl (by decide) (by decide) dX8_tickOnce_690 rfl (fun H locs hq => ?_)
                      obtain ⟨fNw_160, efNw_160⟩ : ∃ z : Nat → Int64, z = vp_updL u_154.2.2.2 12 r_158.toInt64 := ⟨_, rfl⟩
                      rw [← efNw_160] at hq
                      refine lv_aload_n hx hb dX8_tickOnce_691 rfl (lv_at hl 7 rfl) ?_
                      refine kk_get (ci := 8) (v := .ref aNw) (C := RX8) (T := TX8) (N := 22) hx hb hts iX8 hown hK hq 2 rfl rfl 0 (by decide) lk0_ rfl dX8_tickOnce_692 ?_
                      refine lv_iconst (v := 0) hx hb dX8_tickOnce_695 (by decide) ?_
                      refine kk_lald hx hb hK hq 3 0 rfl rfl 0 rfl (by decide) (by decide) dX8_tickOnce_696 ?_
                      refine W.eq (g2 := F0 m 697 ls [.long (u_154.2.2.2 0)]) (by subst efNw_160; rfl) ?_
                      refine lv_lconst (v := 0) hx hb dX8_tickOnce_697 (by decide) ?_
                      refine kk_join1 (fun (z0_162 : Int32) (H : Heap) (locs : List Loc) (ls : Array Slot) => z0_162 = (if u_154.2.2.2 0 = 0 then 1 else if x1_1 = 0 then 0 else if fX8_signOf x1_1 = fX8_signOf (u_154.2.2.2 0) then 0 else 1) ∧ lv_has ls 16 [(13, .long x13_87), (11, .long x11_52), (9, .long r_21), (7, .long r_16), (5, .long z0_13), (3, .long r_3), (1, .long x1_1), (0, .ref aM)] ∧ kAt G A s [(aVs, .inl (cVs, 64, .inr (.inl u_5.2.2.2.2.2.1))), (aSg, .inl (cSg, 128, .inl u_5.2.2.2.2.2.2)), (aM, .inr (8, [.ref aNw, .ref rM_kept, .ref rM_isKept, .ref rM_refused, .int u_5.1, .int u_5.2.1, .ref aVs, .int u_5.2.2.1, .ref aSg, .int u_5.2.2.2.1, .long u_5.2.2.2.2.1, .int M_way, .int M_wish, .long M_moreTick, .long M_moreForce, .int u_154.1, .long u_154.2.1, .long u_154.2.2.1, .ref rM_was, .long M_peak, .long M_beside, .int M_besideAt])), (aNw, .inl (cNw, 139, .inr (.inl fNw_160)))] H locs) 729 (fun z0_162 => [.int z0_162]) (fun z0_162 H locs ls hv => ?_) (fun J_163 => ?_)
                      · skip
                        obtain ⟨ez0_162, hl, hq⟩ := hv
                        refine lv_istore (lv' := [(15, .int z0_162), (13, .long x13_87), (11, .long x11_52), (9, .long r_21), (7, .long r_16), (5, .long z0_13), (3, .long r_3), (1, .long x1_1), (0, .ref aM)]) hx hb dX8_tickOnce_729 hl (by decide) rfl (fun ls hl => ?_)
                        refine lv_aload_n hx hb dX8_tickOnce_731 rfl (lv_at hl 8 rfl) ?_
                        refine kk_get (ci := 8) (v := .ref aNw) (C := RX8) (T := TX8) (N := 22) hx hb hts iX8 hown hK hq 2 rfl rfl 0 (by decide) lk0_ rfl dX8_tickOnce_732 ?_
                        refine lv_iconst (v := 3) hx hb dX8_tickOnce_735 (by decide) ?_
                        refine lv_iload hx hb dX8_tickOnce_736 (lv_at hl 0 rfl) ?_
                        refine kk_join1 (fun (z0_165 : Int64) (H : Heap) (locs : List Loc) (ls : Array Slot) => z0_165 = (if z0_162 = 0 then (u_154.2.2.2 3) + 1 else 0) ∧ lv_has ls 16 [(15, .int z0_162), (13, .long x13_87), (11, .long x11_52), (9, .long r_21), (7, .long r_16), (5, .long z0_13), (3, .long r_3), (1, .long x1_1), (0, .ref aM)] ∧ kAt G A s [(aVs, .inl (cVs, 64, .inr (.inl u_5.2.2.2.2.2.1))), (aSg, .inl (cSg, 128, .inl u_5.2.2.2.2.2.2)), (aM, .inr (8, [.ref aNw, .ref rM_kept, .ref rM_isKept, .ref rM_refused, .int u_5.1, .int u_5.2.1, .ref aVs, .int u_5.2.2.1, .ref aSg, .int u_5.2.2.2.1, .long u_5.2.2.2.2.1, .int M_way, .int M_wish, .long M_moreTick, .long M_moreForce, .int u_154.1, .long u_154.2.1, .long u_154.2.2.1, .ref rM_was, .long M_peak, .long M_beside, .int M_besideAt])), (aNw, .inl (cNw, 139, .inr (.inl fNw_160)))] H locs) 753 (fun z0_165 => [.long z0_165, .int 3, .ref aNw]) (fun z0_165 H locs ls hv => ?_) (fun J_166 => ?_)
                        · skip
                          obtain ⟨ez0_165, hl, hq⟩ := hv
                          refine kk_last (ws' := [(aVs, .inl (cVs, 64, .inr (.inl u_5.2.2.2.2.2.1))), (aSg, .inl (cSg, 128, .inl u_5.2.2.2.2.2.2)), (aM, .inr (8, [.ref aNw, .ref rM_kept, .ref rM_isKept, .ref rM_refused, .int u_5.1, .int u_5.2.1, .ref aVs, .int u_5.2.2.1, .ref aSg, .int u_5.2.2.2.1, .long u_5.2.2.2.2.1, .int M_way, .int M_wish, .long M_moreTick, .long M_moreForce, .int u_154.1, .long u_154.2.1, .long u_154.2.2.1, .ref rM_was, .long M_peak, .long M_beside, .int M_besideAt])), (aNw, .inl (cNw, 139, .inr (.inl (vp_updL fNw_160 3 z0_165))))]) hx hb hK hq 3 0 rfl rfl 3 rfl (by decide) (by decide) dX8_tickOnce_753 rfl (fun H locs hq => ?_)
                          obtain ⟨fNw_167, efNw_167⟩ : ∃ z : Nat → Int64, z = vp_updL fNw_160 3 z0_165 := ⟨_, rfl⟩
                          rw [← efNw_167] at hq
                          refine lv_aload_n hx hb dX8_tickOnce_754 rfl (lv_at hl 8 rfl) ?_
                          refine kk_get (ci := 8) (v := .ref aNw) (C := RX8) (T := TX8) (N := 22) hx hb hts iX8 hown hK hq 2 rfl rfl 0 (by decide) lk0_ rfl dX8_tickOnce_755 ?_
                          refine lv_iconst (v := 5) hx hb dX8_tickOnce_758 (by decide) ?_
                          refine lv_dup2_11 hx hb dX8_tickOnce_759 rfl rfl ?_
                          refine kk_lald hx hb hK hq 3 0 rfl rfl 5 rfl (by decide) (by decide) dX8_tickOnce_760 ?_
                          refine W.eq (g2 := F0 m 761 ls [.long (u_154.2.2.2 5), .int 5, .ref aNw]) (by subst efNw_167 efNw_160; rfl) ?_
                          refine lv_lconst (v := 1) hx hb dX8_tickOnce_761 (by decide) ?_
                          refine lv_ladd hx hb dX8_tickOnce_762 ?_
                          refine lv_topl (fun w_168 ew_168 => ?_)
                          refine kk_last (ws' := [(aVs, .inl (cVs, 64, .inr (.inl u_5.2.2.2.2.2.1))), (aSg, .inl (cSg, 128, .inl u_5.2.2.2.2.2.2)), (aM, .inr (8, [.ref aNw, .ref rM_kept, .ref rM_isKept, .ref rM_refused, .int u_5.1, .int u_5.2.1, .ref aVs, .int u_5.2.2.1, .ref aSg, .int u_5.2.2.2.1, .long u_5.2.2.2.2.1, .int M_way, .int M_wish, .long M_moreTick, .long M_moreForce, .int u_154.1, .long u_154.2.1, .long u_154.2.2.1, .ref rM_was, .long M_peak, .long M_beside, .int M_besideAt])), (aNw, .inl (cNw, 139, .inr (.inl (vp_updL fNw_167 5 w_168))))]) hx hb hK hq 3 0 rfl rfl 5 rfl (by decide) (by decide) dX8_tickOnce_763 rfl (fun H locs hq => ?_)
                          obtain ⟨fNw_169, efNw_169⟩ : ∃ z : Nat → Int64, z = vp_updL fNw_167 5 w_168 := ⟨_, rfl⟩
                          rw [← efNw_169] at hq
                          have hf : ((u_5.1, u_5.2.1, u_5.2.2.1, u_5.2.2.2.1, u_5.2.2.2.2.1, u_154.1, u_154.2.1, u_154.2.2.1, fNw_169, u_5.2.2.2.2.2.1, u_5.2.2.2.2.2.2) : Int32 × Int32 × Int32 × Int32 × Int64 × Int32 × Int64 × Int64 × (Nat → Int64) × (Nat → Int64) × (Nat → Int32)) = fX8_tickOnce M_at M_fault M_valueMany M_signMany M_tells M_way M_wish M_moreTick M_moreForce M_runTurns M_runFirst M_runLast fNw fVs fSg := by
                            clear hq hl
                            subst efNw_169 ew_168 efNw_167 ez0_165 ez0_162 efNw_160 er_158 eu_154 er_130 ex13_87 er_85 er_81 efNw_79 ew_78 efNw_77 ew_76 efNw_75 ew_74 er_72 efNw_70 ew_69 er_67 efNw_65 ew_64 er_62 er_59 efNw_57 ew_56 er_54 ex11_52 er_50 efNw_48 ew_47 ez0_45 ez_43 efNw_36 ez0_34 efNw_32 ew_31 er_29 efNw_27 ew_26 er_24 er_21 efNw_19 ew_18 er_16 ez0_13 er_10 ex5_8 eu_5 er_6 er_3 ex1_1
                            exact ((if_neg c_83).trans ((if_neg c_88).trans ((if_neg c_89).trans ((if_neg c_107).trans ((if_neg c_132).trans (rfl)))))).symm
                          exact kk_ev hx hb hr hlocks hK hq [2, 3, 0, 1] (u_5.1, u_5.2.1, u_5.2.2.1, u_5.2.2.2.1, u_5.2.2.2.2.1, u_154.1, u_154.2.1, u_154.2.2.1, fNw_169, u_5.2.2.2.2.2.1, u_5.2.2.2.2.2.2) rfl (by decide) dX8_tickOnce_764 hf
                        · skip
                          refine lv_if_eq (tgt := 745) hx hb dX8_tickOnce_738 (by decide) (fun c_164 => ?_) (fun c_164 => ?_)
                          · skip
                            refine lv_aload_n hx hb dX8_tickOnce_745 rfl (lv_at hl 8 rfl) ?_
                            refine kk_get (ci := 8) (v := .ref aNw) (C := RX8) (T := TX8) (N := 22) hx hb hts iX8 hown hK hq 2 rfl rfl 0 (by decide) lk0_ rfl dX8_tickOnce_746 ?_
                            refine lv_iconst (v := 3) hx hb dX8_tickOnce_749 (by decide) ?_
                            refine kk_lald hx hb hK hq 3 0 rfl rfl 3 rfl (by decide) (by decide) dX8_tickOnce_750 ?_
                            refine W.eq (g2 := F0 m 751 ls [.long (u_154.2.2.2 3), .int 3, .ref aNw]) (by subst efNw_160; rfl) ?_
                            refine lv_lconst (v := 1) hx hb dX8_tickOnce_751 (by decide) ?_
                            refine lv_ladd hx hb dX8_tickOnce_752 ?_
                            exact J_166 ((u_154.2.2.2 3) + 1) _ _ _ ⟨(if_pos c_164).symm, lv_sub hl [0, 1, 2, 3, 4, 5, 6, 7, 8] rfl, hq⟩
                          · skip
                            refine lv_lconst (v := 0) hx hb dX8_tickOnce_741 (by decide) ?_
                            refine lv_goto (tgt := 753) hx hb dX8_tickOnce_742 (by decide) ?_
                            exact J_166 0 _ _ _ ⟨(if_neg c_164).symm, lv_sub hl [0, 1, 2, 3, 4, 5, 6, 7, 8] rfl, hq⟩
                      · skip
                        refine kk_lc_eq (tgt := 724) hx hb dX8_tickOnce_698 dX8_tickOnce_699 (by decide) (fun c_161 => ?_) (fun c_161 => ?_)
                        · skip
                          refine lv_iconst (v := 1) hx hb dX8_tickOnce_724 (by decide) ?_
                          refine lv_goto (tgt := 729) hx hb dX8_tickOnce_725 (by decide) ?_
                          exact J_163 1 _ _ _ ⟨(if_pos c_161).symm, lv_sub hl [0, 1, 2, 3, 4, 5, 6, 7] rfl, hq⟩
                        · skip
                          refine lv_lload_n hx hb dX8_tickOnce_702 rfl (lv_at hl 6 rfl) ?_
                          refine lv_lconst (v := 0) hx hb dX8_tickOnce_703 (by decide) ?_
                          refine kk_lc_eq (tgt := 728) hx hb dX8_tickOnce_704 dX8_tickOnce_705 (by decide) (fun c_170 => ?_) (fun c_170 => ?_)
                          · skip
                            refine lv_iconst (v := 0) hx hb dX8_tickOnce_728 (by decide) ?_
                            exact J_163 0 _ _ _ ⟨((if_neg c_161).trans (if_pos c_170)).symm, lv_sub hl [0, 1, 2, 3, 4, 5, 6, 7] rfl, hq⟩
                          · skip
                            refine lv_lload_n hx hb dX8_tickOnce_708 rfl (lv_at hl 6 rfl) ?_
                            refine kk_Si (As := [.long x1_1]) (rest := []) (wr := [(aVs, .inl (cVs, 64, .inr (.inl u_5.2.2.2.2.2.1))), (aSg, .inl (cSg, 128, .inl u_5.2.2.2.2.2.2)), (aM, .inr (8, [.ref aNw, .ref rM_kept, .ref rM_isKept, .ref rM_refused, .int u_5.1, .int u_5.2.1, .ref aVs, .int u_5.2.2.1, .ref aSg, .int u_5.2.2.2.1, .long u_5.2.2.2.2.1, .int M_way, .int M_wish, .long M_moreTick, .long M_moreForce, .int u_154.1, .long u_154.2.1, .long u_154.2.2.1, .ref rM_was, .long M_peak, .long M_beside, .int M_besideAt])), (aNw, .inl (cNw, 139, .inr (.inl fNw_160)))]) ⟨hx, hb, hml, hown, hts⟩ (c_X8_signOf l G x1_1) (kk_cwS 1 hts hsb wd_568 wd_569 wd_5 wd_570 rfl rfl hd_X8_signOf ⟨Nat.le_of_ble_eq_true rfl, Nat.le_of_ble_eq_true rfl⟩) hA hK hq [] [0, 1, 2, 3] [] rfl rfl rfl (by decide) (by decide) (by decide) rfl hl.1 rfl (Nat.le_of_ble_eq_true rfl) dX8_tickOnce_709 ⟨Nat.zero_le _, Nat.zero_le _⟩ (fun r_172 u_171 H locs h_173 hq => ?_)
                            obtain rfl := h_173
                            have hq : kAt G A s [(aVs, .inl (cVs, 64, .inr (.inl u_5.2.2.2.2.2.1))), (aSg, .inl (cSg, 128, .inl u_5.2.2.2.2.2.2)), (aM, .inr (8, [.ref aNw, .ref rM_kept, .ref rM_isKept, .ref rM_refused, .int u_5.1, .int u_5.2.1, .ref aVs, .int u_5.2.2.1, .ref aSg, .int u_5.2.2.2.1, .long u_5.2.2.2.2.1, .int M_way, .int M_wish, .long M_moreTick, .long M_moreForce, .int u_154.1, .long u_154.2.1, .long u_154.2.2.1, .ref rM_was, .long M_peak, .long M_beside, .int M_besideAt])), (aNw, .inl (cNw, 139, .inr (.inl fNw_160)))] H locs := hq
                            refine lv_aload_n hx hb dX8_tickOnce_712 rfl (lv_at hl 7 rfl) ?_
                            refine kk_get (ci := 8) (v := .ref aNw) (C := RX8) (T := TX8) (N := 22) hx hb hts iX8 hown hK hq 2 rfl rfl 0 (by decide) lk0_ rfl dX8_tickOnce_713 ?_
                            refine lv_iconst (v := 0) hx hb dX8_tickOnce_716 (by decide) ?_
                            refine kk_lald hx hb hK hq 3 0 rfl rfl 0 rfl (by decide) (by decide) dX8_tickOnce_717 ?_
                            refine W.eq (g2 := F0 m 718 ls [.long (u_154.2.2.2 0), .int (fX8_signOf x1_1)]) (by subst efNw_160; rfl) ?_
                            refine kk_Si (As := [.long (u_154.2.2.2 0)]) (rest := [.int (fX8_signOf x1_1)]) (wr := [(aVs, .inl (cVs, 64, .inr (.inl u_5.2.2.2.2.2.1))), (aSg, .inl (cSg, 128, .inl u_5.2.2.2.2.2.2)), (aM, .inr (8, [.ref aNw, .ref rM_kept, .ref rM_isKept, .ref rM_refused, .int u_5.1, .int u_5.2.1, .ref aVs, .int u_5.2.2.1, .ref aSg, .int u_5.2.2.2.1, .long u_5.2.2.2.2.1, .int M_way, .int M_wish, .long M_moreTick, .long M_moreForce, .int u_154.1, .long u_154.2.1, .long u_154.2.2.1, .ref rM_was, .long M_peak, .long M_beside, .int M_besideAt])), (aNw, .inl (cNw, 139, .inr (.inl fNw_160)))]) ⟨hx, hb, hml, hown, hts⟩ (c_X8_signOf l G (u_154.2.2.2 0)) (kk_cwS 1 hts hsb wd_568 wd_569 wd_5 wd_570 rfl rfl hd_X8_signOf ⟨Nat.le_of_ble_eq_true rfl, Nat.le_of_ble_eq_true rfl⟩) hA hK hq [] [0, 1, 2, 3] [] rfl rfl rfl (by decide) (by decide) (by decide) rfl hl.1 rfl (Nat.le_of_ble_eq_true rfl) dX8_tickOnce_718 ⟨Nat.zero_le _, Nat.zero_le _⟩ (fun r_175 u_174 H locs h_176 hq => ?_)
                            obtain rfl := h_176
                            have hq : kAt G A s [(aVs, .inl (cVs, 64, .inr (.inl u_5.2.2.2.2.2.1))), (aSg, .inl (cSg, 128, .inl u_5.2.2.2.2.2.2)), (aM, .inr (8, [.ref aNw, .ref rM_kept, .ref rM_isKept, .ref rM_refused, .int u_5.1, .int u_5.2.1, .ref aVs, .int u_5.2.2.1, .ref aSg, .int u_5.2.2.2.1, .long u_5.2.2.2.2.1, .int M_way, .int M_wish, .long M_moreTick, .long M_moreForce, .int u_154.1, .long u_154.2.1, .long u_154.2.2.1, .ref rM_was, .long M_peak, .long M_beside, .int M_besideAt])), (aNw, .inl (cNw, 139, .inr (.inl fNw_160)))] H locs := hq
                            refine lv_icmp_eq (tgt := 728) hx hb dX8_tickOnce_721 (by decide) (fun c_177 => ?_) (fun c_177 => ?_)
                            · skip
                              refine lv_iconst (v := 0) hx hb dX8_tickOnce_728 (by decide) ?_
                              exact J_163 0 _ _ _ ⟨((if_neg c_161).trans ((if_neg c_170).trans (if_pos c_177))).symm, lv_sub hl [0, 1, 2, 3, 4, 5, 6, 7] rfl, hq⟩
                            · skip
                              refine lv_iconst (v := 1) hx hb dX8_tickOnce_724 (by decide) ?_
                              refine lv_goto (tgt := 729) hx hb dX8_tickOnce_725 (by decide) ?_
                              exact J_163 1 _ _ _ ⟨((if_neg c_161).trans ((if_neg c_170).trans (if_neg c_177))).symm, lv_sub hl [0, 1, 2, 3, 4, 5, 6, 7] rfl, hq⟩
              · skip
                refine lv_aload_n hx hb dX8_tickOnce_535 rfl (lv_at hl 7 rfl) ?_
                refine kk_get (ci := 8) (v := .ref aNw) (C := RX8) (T := TX8) (N := 22) hx hb hts iX8 hown hK hq 2 rfl rfl 0 (by decide) lk0_ rfl dX8_tickOnce_536 ?_
                refine lv_iconst (v := 0) hx hb dX8_tickOnce_539 (by decide) ?_
                refine lv_aload_n hx hb dX8_tickOnce_540 rfl (lv_at hl 7 rfl) ?_
                refine kk_get (ci := 8) (v := .ref aNw) (C := RX8) (T := TX8) (N := 22) hx hb hts iX8 hown hK hq 2 rfl rfl 0 (by decide) lk0_ rfl dX8_tickOnce_541 ?_
                refine lv_iconst (v := 0) hx hb dX8_tickOnce_544 (by decide) ?_
                refine kk_lald hx hb hK hq 3 0 rfl rfl 0 rfl (by decide) (by decide) dX8_tickOnce_545 ?_
                refine W.eq (g2 := F0 m 546 ls [.long w_76, .int 0, .ref aNw]) (by subst efNw_79 efNw_77; rfl) ?_
                refine lv_lconst (v := 0) hx hb dX8_tickOnce_546 (by decide) ?_
                refine kk_join1 (fun (z0_179 : Int64) (H : Heap) (locs : List Loc) (ls : Array Slot) => z0_179 = (if 0 < w_76 then 1000000 else (-1000000)) ∧ lv_has ls 16 [(13, .long x13_87), (11, .long x11_52), (9, .long r_21), (7, .long r_16), (5, .long z0_13), (3, .long r_3), (1, .long x1_1), (0, .ref aM)] ∧ kAt G A s [(aVs, .inl (cVs, 64, .inr (.inl u_5.2.2.2.2.2.1))), (aSg, .inl (cSg, 128, .inl u_5.2.2.2.2.2.2)), (aM, .inr (8, [.ref aNw, .ref rM_kept, .ref rM_isKept, .ref rM_refused, .int u_5.1, .int u_5.2.1, .ref aVs, .int u_5.2.2.1, .ref aSg, .int u_5.2.2.2.1, .long u_5.2.2.2.2.1, .int M_way, .int M_wish, .long M_moreTick, .long M_moreForce, .int M_runTurns, .long M_runFirst, .long M_runLast, .ref rM_was, .long M_peak, .long M_beside, .int M_besideAt])), (aNw, .inl (cNw, 139, .inr (.inl fNw_79)))] H locs) 560 (fun z0_179 => [.long z0_179, .int 0, .ref aNw]) (fun z0_179 H locs ls hv => ?_) (fun J_180 => ?_)
                · skip
                  obtain ⟨ez0_179, hl, hq⟩ := hv
                  refine kk_last (ws' := [(aVs, .inl (cVs, 64, .inr (.inl u_5.2.2.2.2.2.1))), (aSg, .inl (cSg, 128, .inl u_5.2.2.2.2.2.2)), (aM, .inr (8, [.ref aNw, .ref rM_kept, .ref rM_isKept, .ref rM_refused, .int u_5.1, .int u_5.2.1, .ref aVs, .int u_5.2.2.1, .ref aSg, .int u_5.2.2.2.1, .long u_5.2.2.2.2.1, .int M_way, .int M_wish, .long M_moreTick, .long M_moreForce, .int M_runTurns, .long M_runFirst, .long M_runLast, .ref rM_was, .long M_peak, .long M_beside, .int M_besideAt])), (aNw, .inl (cNw, 139, .inr (.inl (vp_updL fNw_79 0 z0_179))))]) hx hb hK hq 3 0 rfl rfl 0 rfl (by decide) (by decide) dX8_tickOnce_560 rfl (fun H locs hq => ?_)
                  obtain ⟨fNw_181, efNw_181⟩ : ∃ z : Nat → Int64, z = vp_updL fNw_79 0 z0_179 := ⟨_, rfl⟩
                  rw [← efNw_181] at hq
                  have agfNw_181 := AG_u efNw_181 (by assumption) (by decide)
                  refine lv_aload_n hx hb dX8_tickOnce_561 rfl (lv_at hl 7 rfl) ?_
                  refine kk_get (ci := 8) (v := .ref aNw) (C := RX8) (T := TX8) (N := 22) hx hb hts iX8 hown hK hq 2 rfl rfl 0 (by decide) lk0_ rfl dX8_tickOnce_562 ?_
                  refine lv_iconst (v := 1) hx hb dX8_tickOnce_565 (by decide) ?_
                  refine lv_lconst (v := 0) hx hb dX8_tickOnce_566 (by decide) ?_
                  refine kk_last (ws' := [(aVs, .inl (cVs, 64, .inr (.inl u_5.2.2.2.2.2.1))), (aSg, .inl (cSg, 128, .inl u_5.2.2.2.2.2.2)), (aM, .inr (8, [.ref aNw, .ref rM_kept, .ref rM_isKept, .ref rM_refused, .int u_5.1, .int u_5.2.1, .ref aVs, .int u_5.2.2.1, .ref aSg, .int u_5.2.2.2.1, .long u_5.2.2.2.2.1, .int M_way, .int M_wish, .long M_moreTick, .long M_moreForce, .int M_runTurns, .long M_runFirst, .long M_runLast, .ref rM_was, .long M_peak, .long M_beside, .int M_besideAt])), (aNw, .inl (cNw, 139, .inr (.inl (vp_updL fNw_181 1 0))))]) hx hb hK hq 3 0 rfl rfl 1 rfl (by decide) (by decide) dX8_tickOnce_567 rfl (fun H locs hq => ?_)
                  obtain ⟨fNw_182, efNw_182⟩ : ∃ z : Nat → Int64, z = vp_updL fNw_181 1 0 := ⟨_, rfl⟩
                  rw [← efNw_182] at hq
                  have agfNw_182 := AG_u efNw_182 (by assumption) (by decide)
                  refine lv_aload_n hx hb dX8_tickOnce_568 rfl (lv_at hl 7 rfl) ?_
                  refine kk_get (ci := 8) (v := .ref aNw) (C := RX8) (T := TX8) (N := 22) hx hb hts iX8 hown hK hq 2 rfl rfl 0 (by decide) lk0_ rfl dX8_tickOnce_569 ?_
                  refine lv_bipush (v := 12) hx hb dX8_tickOnce_572 (by decide) ?_
                  refine lv_lconst (v := 0) hx hb dX8_tickOnce_574 (by decide) ?_
                  refine kk_last (ws' := [(aVs, .inl (cVs, 64, .inr (.inl u_5.2.2.2.2.2.1))), (aSg, .inl (cSg, 128, .inl u_5.2.2.2.2.2.2)), (aM, .inr (8, [.ref aNw, .ref rM_kept, .ref rM_isKept, .ref rM_refused, .int u_5.1, .int u_5.2.1, .ref aVs, .int u_5.2.2.1, .ref aSg, .int u_5.2.2.2.1, .long u_5.2.2.2.2.1, .int M_way, .int M_wish, .long M_moreTick, .long M_moreForce, .int M_runTurns, .long M_runFirst, .long M_runLast, .ref rM_was, .long M_peak, .long M_beside, .int M_besideAt])), (aNw, .inl (cNw, 139, .inr (.inl (vp_updL fNw_182 12 0))))]) hx hb hK hq 3 0 rfl rfl 12 rfl (by decide) (by decide) dX8_tickOnce_575 rfl (fun H locs hq => ?_)
                  obtain ⟨fNw_183, efNw_183⟩ : ∃ z : Nat → Int64, z = vp_updL fNw_182 12 0 := ⟨_, rfl⟩
                  rw [← efNw_183] at hq
                  have agfNw_183 := AG_u efNw_183 (by assumption) (by decide)
                  refine lv_aload_n hx hb dX8_tickOnce_576 rfl (lv_at hl 7 rfl) ?_
                  refine kk_get (ci := 8) (v := .ref aNw) (C := RX8) (T := TX8) (N := 22) hx hb hts iX8 hown hK hq 2 rfl rfl 0 (by decide) lk0_ rfl dX8_tickOnce_577 ?_
                  refine lv_bipush (v := 8) hx hb dX8_tickOnce_580 (by decide) ?_
                  refine lv_dup2_11 hx hb dX8_tickOnce_582 rfl rfl ?_
                  refine kk_lald hx hb hK hq 3 0 rfl rfl 8 rfl (by decide) (by decide) dX8_tickOnce_583 ?_
                  refine W.eq (g2 := F0 m 584 ls [.long (z_43.2 8), .int 8, .ref aNw]) (by subst efNw_183 efNw_182 efNw_181 efNw_79 efNw_77 efNw_75 efNw_70 efNw_65 efNw_57 efNw_48; rfl) ?_
                  refine lv_lconst (v := 1) hx hb dX8_tickOnce_584 (by decide) ?_
                  refine lv_ladd hx hb dX8_tickOnce_585 ?_
                  refine lv_topl (fun w_184 ew_184 => ?_)
                  refine kk_last (ws' := [(aVs, .inl (cVs, 64, .inr (.inl u_5.2.2.2.2.2.1))), (aSg, .inl (cSg, 128, .inl u_5.2.2.2.2.2.2)), (aM, .inr (8, [.ref aNw, .ref rM_kept, .ref rM_isKept, .ref rM_refused, .int u_5.1, .int u_5.2.1, .ref aVs, .int u_5.2.2.1, .ref aSg, .int u_5.2.2.2.1, .long u_5.2.2.2.2.1, .int M_way, .int M_wish, .long M_moreTick, .long M_moreForce, .int M_runTurns, .long M_runFirst, .long M_runLast, .ref rM_was, .long M_peak, .long M_beside, .int M_besideAt])), (aNw, .inl (cNw, 139, .inr (.inl (vp_updL fNw_183 8 w_184))))]) hx hb hK hq 3 0 rfl rfl 8 rfl (by decide) (by decide) dX8_tickOnce_586 rfl (fun H locs hq => ?_)
                  obtain ⟨fNw_185, efNw_185⟩ : ∃ z : Nat → Int64, z = vp_updL fNw_183 8 w_184 := ⟨_, rfl⟩
                  rw [← efNw_185] at hq
                  have agfNw_185 := AG_u efNw_185 (by assumption) (by decide)
                  refine lv_aload_n hx hb dX8_tickOnce_587 rfl (lv_at hl 7 rfl) ?_
                  refine kk_get (ci := 8) (v := .ref aNw) (C := RX8) (T := TX8) (N := 22) hx hb hts iX8 hown hK hq 2 rfl rfl 0 (by decide) lk0_ rfl dX8_tickOnce_588 ?_
                  refine lv_bipush (v := 9) hx hb dX8_tickOnce_591 (by decide) ?_
                  refine lv_lload hx hb dX8_tickOnce_593 (lv_at hl 0 rfl) ?_
                  refine lv_aload_n hx hb dX8_tickOnce_595 rfl (lv_at hl 7 rfl) ?_
                  refine kk_get (ci := 8) (v := .ref aNw) (C := RX8) (T := TX8) (N := 22) hx hb hts iX8 hown hK hq 2 rfl rfl 0 (by decide) lk0_ rfl dX8_tickOnce_596 ?_
                  refine lv_bipush (v := 9) hx hb dX8_tickOnce_599 (by decide) ?_
                  refine kk_lald hx hb hK hq 3 0 rfl rfl 9 rfl (by decide) (by decide) dX8_tickOnce_601 ?_
                  refine W.eq (g2 := F0 m 602 ls [.long (z_43.2 9), .long x13_87, .int 9, .ref aNw]) (by subst efNw_185 efNw_183 efNw_182 efNw_181 efNw_79 efNw_77 efNw_75 efNw_70 efNw_65 efNw_57 efNw_48; rfl) ?_
                  refine kk_join1 (fun (z0_187 : Int64) (H : Heap) (locs : List Loc) (ls : Array Slot) => z0_187 = (if z_43.2 9 < x13_87 then x13_87 else z_43.2 9) ∧ lv_has ls 16 [(13, .long x13_87), (11, .long x11_52), (9, .long r_21), (7, .long r_16), (5, .long z0_13), (3, .long r_3), (1, .long x1_1), (0, .ref aM)] ∧ kAt G A s [(aVs, .inl (cVs, 64, .inr (.inl u_5.2.2.2.2.2.1))), (aSg, .inl (cSg, 128, .inl u_5.2.2.2.2.2.2)), (aM, .inr (8, [.ref aNw, .ref rM_kept, .ref rM_isKept, .ref rM_refused, .int u_5.1, .int u_5.2.1, .ref aVs, .int u_5.2.2.1, .ref aSg, .int u_5.2.2.2.1, .long u_5.2.2.2.2.1, .int M_way, .int M_wish, .long M_moreTick, .long M_moreForce, .int M_runTurns, .long M_runFirst, .long M_runLast, .ref rM_was, .long M_peak, .long M_beside, .int M_besideAt])), (aNw, .inl (cNw, 139, .inr (.inl fNw_185)))] H locs) 618 (fun z0_187 => [.long z0_187, .int 9, .ref aNw]) (fun z0_187 H locs ls hv => ?_) (fun J_188 => ?_)
                  · skip
                    obtain ⟨ez0_187, hl, hq⟩ := hv
                    refine kk_last (ws' := [(aVs, .inl (cVs, 64, .inr (.inl u_5.2.2.2.2.2.1))), (aSg, .inl (cSg, 128, .inl u_5.2.2.2.2.2.2)), (aM, .inr (8, [.ref aNw, .ref rM_kept, .ref rM_isKept, .ref rM_refused, .int u_5.1, .int u_5.2.1, .ref aVs, .int u_5.2.2.1, .ref aSg, .int u_5.2.2.2.1, .long u_5.2.2.2.2.1, .int M_way, .int M_wish, .long M_moreTick, .long M_moreForce, .int M_runTurns, .long M_runFirst, .long M_runLast, .ref rM_was, .long M_peak, .long M_beside, .int M_besideAt])), (aNw, .inl (cNw, 139, .inr (.inl (vp_updL fNw_185 9 z0_187))))]) hx hb hK hq 3 0 rfl rfl 9 rfl (by decide) (by decide) dX8_tickOnce_618 rfl (fun H locs hq => ?_)
                    obtain ⟨fNw_189, efNw_189⟩ : ∃ z : Nat → Int64, z = vp_updL fNw_185 9 z0_187 := ⟨_, rfl⟩
                    rw [← efNw_189] at hq
                    have agfNw_189 := AG_u efNw_189 (by assumption) (by decide)
                    refine lv_aload_n hx hb dX8_tickOnce_619 rfl (lv_at hl 7 rfl) ?_
                    refine kk_Vv (As := []) (rest := []) (wr := [(aVs, .inl (cVs, 64, .inr (.inl u_5.2.2.2.2.2.1))), (aSg, .inl (cSg, 128, .inl u_5.2.2.2.2.2.2))]) ⟨hx, hb, hml, hown, hts⟩ (c_X8_turned l G aM aNw rM_kept rM_isKept rM_refused aVs aSg rM_was cNw u_5.1 u_5.2.1 u_5.2.2.1 u_5.2.2.2.1 u_5.2.2.2.2.1 M_way M_wish M_moreTick M_moreForce M_runTurns M_runFirst M_runLast M_peak M_beside M_besideAt fNw_189 (AG_6 wn (by assumption))) (kk_cwV 0 hts hsb wd_560 wd_561 wd_562 wd_5 wd_563 rfl rfl hd_X8_turned ⟨Nat.le_of_ble_eq_true rfl, Nat.le_of_ble_eq_true rfl⟩) hA hK hq [2, 3] [0, 1] [0] rfl rfl rfl (by decide) (by decide) (by decide) 0 8 rfl rfl rfl rfl hl.1 rfl (Nat.le_of_ble_eq_true rfl) dX8_tickOnce_620 ⟨Nat.zero_le _, Nat.zero_le _⟩ (fun u_190 H locs h_192 hq => ?_)
                    have eu_190 := h_192
                    have hq : kAt G A s [(aVs, .inl (cVs, 64, .inr (.inl u_5.2.2.2.2.2.1))), (aSg, .inl (cSg, 128, .inl u_5.2.2.2.2.2.2)), (aM, .inr (8, [.ref aNw, .ref rM_kept, .ref rM_isKept, .ref rM_refused, .int u_5.1, .int u_5.2.1, .ref aVs, .int u_5.2.2.1, .ref aSg, .int u_5.2.2.2.1, .long u_5.2.2.2.2.1, .int M_way, .int M_wish, .long M_moreTick, .long M_moreForce, .int u_190.1, .long u_190.2.1, .long u_190.2.2.1, .ref rM_was, .long M_peak, .long M_beside, .int M_besideAt])), (aNw, .inl (cNw, 139, .inr (.inl u_190.2.2.2)))] H locs := hq
                    refine lv_goto (tgt := 691) hx hb dX8_tickOnce_623 (by decide) ?_
                    refine lv_aload_n hx hb dX8_tickOnce_691 rfl (lv_at hl 7 rfl) ?_
                    refine kk_get (ci := 8) (v := .ref aNw) (C := RX8) (T := TX8) (N := 22) hx hb hts iX8 hown hK hq 2 rfl rfl 0 (by decide) lk0_ rfl dX8_tickOnce_692 ?_
                    refine lv_iconst (v := 0) hx hb dX8_tickOnce_695 (by decide) ?_
                    refine kk_lald hx hb hK hq 3 0 rfl rfl 0 rfl (by decide) (by decide) dX8_tickOnce_696 ?_
                    refine lv_lconst (v := 0) hx hb dX8_tickOnce_697 (by decide) ?_
                    refine kk_join1 (fun (z0_194 : Int32) (H : Heap) (locs : List Loc) (ls : Array Slot) => z0_194 = (if u_190.2.2.2 0 = 0 then 1 else if x1_1 = 0 then 0 else if fX8_signOf x1_1 = fX8_signOf (u_190.2.2.2 0) then 0 else 1) ∧ lv_has ls 16 [(13, .long x13_87), (11, .long x11_52), (9, .long r_21), (7, .long r_16), (5, .long z0_13), (3, .long r_3), (1, .long x1_1), (0, .ref aM)] ∧ kAt G A s [(aVs, .inl (cVs, 64, .inr (.inl u_5.2.2.2.2.2.1))), (aSg, .inl (cSg, 128, .inl u_5.2.2.2.2.2.2)), (aM, .inr (8, [.ref aNw, .ref rM_kept, .ref rM_isKept, .ref rM_refused, .int u_5.1, .int u_5.2.1, .ref aVs, .int u_5.2.2.1, .ref aSg, .int u_5.2.2.2.1, .long u_5.2.2.2.2.1, .int M_way, .int M_wish, .long M_moreTick, .long M_moreForce, .int u_190.1, .long u_190.2.1, .long u_190.2.2.1, .ref rM_was, .long M_peak, .long M_beside, .int M_besideAt])), (aNw, .inl (cNw, 139, .inr (.inl u_190.2.2.2)))] H locs) 729 (fun z0_194 => [.int z0_194]) (fun z0_194 H locs ls hv => ?_) (fun J_195 => ?_)
                    · skip
                      obtain ⟨ez0_194, hl, hq⟩ := hv
                      refine lv_istore (lv' := [(15, .int z0_194), (13, .long x13_87), (11, .long x11_52), (9, .long r_21), (7, .long r_16), (5, .long z0_13), (3, .long r_3), (1, .long x1_1), (0, .ref aM)]) hx hb dX8_tickOnce_729 hl (by decide) rfl (fun ls hl => ?_)
                      refine lv_aload_n hx hb dX8_tickOnce_731 rfl (lv_at hl 8 rfl) ?_
                      refine kk_get (ci := 8) (v := .ref aNw) (C := RX8) (T := TX8) (N := 22) hx hb hts iX8 hown hK hq 2 rfl rfl 0 (by decide) lk0_ rfl dX8_tickOnce_732 ?_
                      refine lv_iconst (v := 3) hx hb dX8_tickOnce_735 (by decide) ?_
                      refine lv_iload hx hb dX8_tickOnce_736 (lv_at hl 0 rfl) ?_
                      refine kk_join1 (fun (z0_197 : Int64) (H : Heap) (locs : List Loc) (ls : Array Slot) => z0_197 = (if z0_194 = 0 then (u_190.2.2.2 3) + 1 else 0) ∧ lv_has ls 16 [(15, .int z0_194), (13, .long x13_87), (11, .long x11_52), (9, .long r_21), (7, .long r_16), (5, .long z0_13), (3, .long r_3), (1, .long x1_1), (0, .ref aM)] ∧ kAt G A s [(aVs, .inl (cVs, 64, .inr (.inl u_5.2.2.2.2.2.1))), (aSg, .inl (cSg, 128, .inl u_5.2.2.2.2.2.2)), (aM, .inr (8, [.ref aNw, .ref rM_kept, .ref rM_isKept, .ref rM_refused, .int u_5.1, .int u_5.2.1, .ref aVs, .int u_5.2.2.1, .ref aSg, .int u_5.2.2.2.1, .long u_5.2.2.2.2.1, .int M_way, .int M_wish, .long M_moreTick, .long M_moreForce, .int u_190.1, .long u_190.2.1, .long u_190.2.2.1, .ref rM_was, .long M_peak, .long M_beside, .int M_besideAt])), (aNw, .inl (cNw, 139, .inr (.inl u_190.2.2.2)))] H locs) 753 (fun z0_197 => [.long z0_197, .int 3, .ref aNw]) (fun z0_197 H locs ls hv => ?_) (fun J_198 => ?_)
                      · skip
                        obtain ⟨ez0_197, hl, hq⟩ := hv
                        refine kk_last (ws' := [(aVs, .inl (cVs, 64, .inr (.inl u_5.2.2.2.2.2.1))), (aSg, .inl (cSg, 128, .inl u_5.2.2.2.2.2.2)), (aM, .inr (8, [.ref aNw, .ref rM_kept, .ref rM_isKept, .ref rM_refused, .int u_5.1, .int u_5.2.1, .ref aVs, .int u_5.2.2.1, .ref aSg, .int u_5.2.2.2.1, .long u_5.2.2.2.2.1, .int M_way, .int M_wish, .long M_moreTick, .long M_moreForce, .int u_190.1, .long u_190.2.1, .long u_190.2.2.1, .ref rM_was, .long M_peak, .long M_beside, .int M_besideAt])), (aNw, .inl (cNw, 139, .inr (.inl (vp_updL u_190.2.2.2 3 z0_197))))]) hx hb hK hq 3 0 rfl rfl 3 rfl (by decide) (by decide) dX8_tickOnce_753 rfl (fun H locs hq => ?_)
                        obtain ⟨fNw_199, efNw_199⟩ : ∃ z : Nat → Int64, z = vp_updL u_190.2.2.2 3 z0_197 := ⟨_, rfl⟩
                        rw [← efNw_199] at hq
                        refine lv_aload_n hx hb dX8_tickOnce_754 rfl (lv_at hl 8 rfl) ?_
                        refine kk_get (ci := 8) (v := .ref aNw) (C := RX8) (T := TX8) (N := 22) hx hb hts iX8 hown hK hq 2 rfl rfl 0 (by decide) lk0_ rfl dX8_tickOnce_755 ?_
                        refine lv_iconst (v := 5) hx hb dX8_tickOnce_758 (by decide) ?_
                        refine lv_dup2_11 hx hb dX8_tickOnce_759 rfl rfl ?_
                        refine kk_lald hx hb hK hq 3 0 rfl rfl 5 rfl (by decide) (by decide) dX8_tickOnce_760 ?_
                        refine W.eq (g2 := F0 m 761 ls [.long (u_190.2.2.2 5), .int 5, .ref aNw]) (by subst efNw_199; rfl) ?_
                        refine lv_lconst (v := 1) hx hb dX8_tickOnce_761 (by decide) ?_
                        refine lv_ladd hx hb dX8_tickOnce_762 ?_
                        refine lv_topl (fun w_200 ew_200 => ?_)
                        refine kk_last (ws' := [(aVs, .inl (cVs, 64, .inr (.inl u_5.2.2.2.2.2.1))), (aSg, .inl (cSg, 128, .inl u_5.2.2.2.2.2.2)), (aM, .inr (8, [.ref aNw, .ref rM_kept, .ref rM_isKept, .ref rM_refused, .int u_5.1, .int u_5.2.1, .ref aVs, .int u_5.2.2.1, .ref aSg, .int u_5.2.2.2.1, .long u_5.2.2.2.2.1, .int M_way, .int M_wish, .long M_moreTick, .long M_moreForce, .int u_190.1, .long u_190.2.1, .long u_190.2.2.1, .ref rM_was, .long M_peak, .long M_beside, .int M_besideAt])), (aNw, .inl (cNw, 139, .inr (.inl (vp_updL fNw_199 5 w_200))))]) hx hb hK hq 3 0 rfl rfl 5 rfl (by decide) (by decide) dX8_tickOnce_763 rfl (fun H locs hq => ?_)
                        obtain ⟨fNw_201, efNw_201⟩ : ∃ z : Nat → Int64, z = vp_updL fNw_199 5 w_200 := ⟨_, rfl⟩
                        rw [← efNw_201] at hq
                        have hf : ((u_5.1, u_5.2.1, u_5.2.2.1, u_5.2.2.2.1, u_5.2.2.2.2.1, u_190.1, u_190.2.1, u_190.2.2.1, fNw_201, u_5.2.2.2.2.2.1, u_5.2.2.2.2.2.2) : Int32 × Int32 × Int32 × Int32 × Int64 × Int32 × Int64 × Int64 × (Nat → Int64) × (Nat → Int64) × (Nat → Int32)) = fX8_tickOnce M_at M_fault M_valueMany M_signMany M_tells M_way M_wish M_moreTick M_moreForce M_runTurns M_runFirst M_runLast fNw fVs fSg := by
                          clear hq hl
                          subst efNw_201 ew_200 efNw_199 ez0_197 ez0_194 eu_190 efNw_189 ez0_187 efNw_185 ew_184 efNw_183 efNw_182 efNw_181 ez0_179 ex13_87 er_85 er_81 efNw_79 ew_78 efNw_77 ew_76 efNw_75 ew_74 er_72 efNw_70 ew_69 er_67 efNw_65 ew_64 er_62 er_59 efNw_57 ew_56 er_54 ex11_52 er_50 efNw_48 ew_47 ez0_45 ez_43 efNw_36 ez0_34 efNw_32 ew_31 er_29 efNw_27 ew_26 er_24 er_21 efNw_19 ew_18 er_16 ez0_13 er_10 ex5_8 eu_5 er_6 er_3 ex1_1
                          exact ((if_neg c_83).trans ((if_pos c_88).trans (rfl))).symm
                        exact kk_ev hx hb hr hlocks hK hq [2, 3, 0, 1] (u_5.1, u_5.2.1, u_5.2.2.1, u_5.2.2.2.1, u_5.2.2.2.2.1, u_190.1, u_190.2.1, u_190.2.2.1, fNw_201, u_5.2.2.2.2.2.1, u_5.2.2.2.2.2.2) rfl (by decide) dX8_tickOnce_764 hf
                      · skip
                        refine lv_if_eq (tgt := 745) hx hb dX8_tickOnce_738 (by decide) (fun c_196 => ?_) (fun c_196 => ?_)
                        · skip
                          refine lv_aload_n hx hb dX8_tickOnce_745 rfl (lv_at hl 8 rfl) ?_
                          refine kk_get (ci := 8) (v := .ref aNw) (C := RX8) (T := TX8) (N := 22) hx hb hts iX8 hown hK hq 2 rfl rfl 0 (by decide) lk0_ rfl dX8_tickOnce_746 ?_
                          refine lv_iconst (v := 3) hx hb dX8_tickOnce_749 (by decide) ?_
                          refine kk_lald hx hb hK hq 3 0 rfl rfl 3 rfl (by decide) (by decide) dX8_tickOnce_750 ?_
                          refine lv_lconst (v := 1) hx hb dX8_tickOnce_751 (by decide) ?_
                          refine lv_ladd hx hb dX8_tickOnce_752 ?_
                          exact J_198 ((u_190.2.2.2 3) + 1) _ _ _ ⟨(if_pos c_196).symm, lv_sub hl [0, 1, 2, 3, 4, 5, 6, 7, 8] rfl, hq⟩
                        · skip
                          refine lv_lconst (v := 0) hx hb dX8_tickOnce_741 (by decide) ?_
                          refine lv_goto (tgt := 753) hx hb dX8_tickOnce_742 (by decide) ?_
                          exact J_198 0 _ _ _ ⟨(if_neg c_196).symm, lv_sub hl [0, 1, 2, 3, 4, 5, 6, 7, 8] rfl, hq⟩
                    · skip
                      refine kk_lc_eq (tgt := 724) hx hb dX8_tickOnce_698 dX8_tickOnce_699 (by decide) (fun c_193 => ?_) (fun c_193 => ?_)
                      · skip
                        refine lv_iconst (v := 1) hx hb dX8_tickOnce_724 (by decide) ?_
                        refine lv_goto (tgt := 729) hx hb dX8_tickOnce_725 (by decide) ?_
                        exact J_195 1 _ _ _ ⟨(if_pos c_193).symm, lv_sub hl [0, 1, 2, 3, 4, 5, 6, 7] rfl, hq⟩
                      · skip
                        refine lv_lload_n hx hb dX8_tickOnce_702 rfl (lv_at hl 6 rfl) ?_
                        refine lv_lconst (v := 0) hx hb dX8_tickOnce_703 (by decide) ?_
                        refine kk_lc_eq (tgt := 728) hx hb dX8_tickOnce_704 dX8_tickOnce_705 (by decide) (fun c_202 => ?_) (fun c_202 => ?_)
                        · skip
                          refine lv_iconst (v := 0) hx hb dX8_tickOnce_728 (by decide) ?_
                          exact J_195 0 _ _ _ ⟨((if_neg c_193).trans (if_pos c_202)).symm, lv_sub hl [0, 1, 2, 3, 4, 5, 6, 7] rfl, hq⟩
                        · skip
                          refine lv_lload_n hx hb dX8_tickOnce_708 rfl (lv_at hl 6 rfl) ?_
                          refine kk_Si (As := [.long x1_1]) (rest := []) (wr := [(aVs, .inl (cVs, 64, .inr (.inl u_5.2.2.2.2.2.1))), (aSg, .inl (cSg, 128, .inl u_5.2.2.2.2.2.2)), (aM, .inr (8, [.ref aNw, .ref rM_kept, .ref rM_isKept, .ref rM_refused, .int u_5.1, .int u_5.2.1, .ref aVs, .int u_5.2.2.1, .ref aSg, .int u_5.2.2.2.1, .long u_5.2.2.2.2.1, .int M_way, .int M_wish, .long M_moreTick, .long M_moreForce, .int u_190.1, .long u_190.2.1, .long u_190.2.2.1, .ref rM_was, .long M_peak, .long M_beside, .int M_besideAt])), (aNw, .inl (cNw, 139, .inr (.inl u_190.2.2.2)))]) ⟨hx, hb, hml, hown, hts⟩ (c_X8_signOf l G x1_1) (kk_cwS 1 hts hsb wd_568 wd_569 wd_5 wd_570 rfl rfl hd_X8_signOf ⟨Nat.le_of_ble_eq_true rfl, Nat.le_of_ble_eq_true rfl⟩) hA hK hq [] [0, 1, 2, 3] [] rfl rfl rfl (by decide) (by decide) (by decide) rfl hl.1 rfl (Nat.le_of_ble_eq_true rfl) dX8_tickOnce_709 ⟨Nat.zero_le _, Nat.zero_le _⟩ (fun r_204 u_203 H locs h_205 hq => ?_)
                          obtain rfl := h_205
                          have hq : kAt G A s [(aVs, .inl (cVs, 64, .inr (.inl u_5.2.2.2.2.2.1))), (aSg, .inl (cSg, 128, .inl u_5.2.2.2.2.2.2)), (aM, .inr (8, [.ref aNw, .ref rM_kept, .ref rM_isKept, .ref rM_refused, .int u_5.1, .int u_5.2.1, .ref aVs, .int u_5.2.2.1, .ref aSg, .int u_5.2.2.2.1, .long u_5.2.2.2.2.1, .int M_way, .int M_wish, .long M_moreTick, .long M_moreForce, .int u_190.1, .long u_190.2.1, .long u_190.2.2.1, .ref rM_was, .long M_peak, .long M_beside, .int M_besideAt])), (aNw, .inl (cNw, 139, .inr (.inl u_190.2.2.2)))] H locs := hq
                          refine lv_aload_n hx hb dX8_tickOnce_712 rfl (lv_at hl 7 rfl) ?_
                          refine kk_get (ci := 8) (v := .ref aNw) (C := RX8) (T := TX8) (N := 22) hx hb hts iX8 hown hK hq 2 rfl rfl 0 (by decide) lk0_ rfl dX8_tickOnce_713 ?_
                          refine lv_iconst (v := 0) hx hb dX8_tickOnce_716 (by decide) ?_
                          refine kk_lald hx hb hK hq 3 0 rfl rfl 0 rfl (by decide) (by decide) dX8_tickOnce_717 ?_
                          refine kk_Si (As := [.long (u_190.2.2.2 0)]) (rest := [.int (fX8_signOf x1_1)]) (wr := [(aVs, .inl (cVs, 64, .inr (.inl u_5.2.2.2.2.2.1))), (aSg, .inl (cSg, 128, .inl u_5.2.2.2.2.2.2)), (aM, .inr (8, [.ref aNw, .ref rM_kept, .ref rM_isKept, .ref rM_refused, .int u_5.1, .int u_5.2.1, .ref aVs, .int u_5.2.2.1, .ref aSg, .int u_5.2.2.2.1, .long u_5.2.2.2.2.1, .int M_way, .int M_wish, .long M_moreTick, .long M_moreForce, .int u_190.1, .long u_190.2.1, .long u_190.2.2.1, .ref rM_was, .long M_peak, .long M_beside, .int M_besideAt])), (aNw, .inl (cNw, 139, .inr (.inl u_190.2.2.2)))]) ⟨hx, hb, hml, hown, hts⟩ (c_X8_signOf l G (u_190.2.2.2 0)) (kk_cwS 1 hts hsb wd_568 wd_569 wd_5 wd_570 rfl rfl hd_X8_signOf ⟨Nat.le_of_ble_eq_true rfl, Nat.le_of_ble_eq_true rfl⟩) hA hK hq [] [0, 1, 2, 3] [] rfl rfl rfl (by decide) (by decide) (by decide) rfl hl.1 rfl (Nat.le_of_ble_eq_true rfl) dX8_tickOnce_718 ⟨Nat.zero_le _, Nat.zero_le _⟩ (fun r_207 u_206 H locs h_208 hq => ?_)
                          obtain rfl := h_208
                          have hq : kAt G A s [(aVs, .inl (cVs, 64, .inr (.inl u_5.2.2.2.2.2.1))), (aSg, .inl (cSg, 128, .inl u_5.2.2.2.2.2.2)), (aM, .inr (8, [.ref aNw, .ref rM_kept, .ref rM_isKept, .ref rM_refused, .int u_5.1, .int u_5.2.1, .ref aVs, .int u_5.2.2.1, .ref aSg, .int u_5.2.2.2.1, .long u_5.2.2.2.2.1, .int M_way, .int M_wish, .long M_moreTick, .long M_moreForce, .int u_190.1, .long u_190.2.1, .long u_190.2.2.1, .ref rM_was, .long M_peak, .long M_beside, .int M_besideAt])), (aNw, .inl (cNw, 139, .inr (.inl u_190.2.2.2)))] H locs := hq
                          refine lv_icmp_eq (tgt := 728) hx hb dX8_tickOnce_721 (by decide) (fun c_209 => ?_) (fun c_209 => ?_)
                          · skip
                            refine lv_iconst (v := 0) hx hb dX8_tickOnce_728 (by decide) ?_
                            exact J_195 0 _ _ _ ⟨((if_neg c_193).trans ((if_neg c_202).trans (if_pos c_209))).symm, lv_sub hl [0, 1, 2, 3, 4, 5, 6, 7] rfl, hq⟩
                          · skip
                            refine lv_iconst (v := 1) hx hb dX8_tickOnce_724 (by decide) ?_
                            refine lv_goto (tgt := 729) hx hb dX8_tickOnce_725 (by decide) ?_
                            exact J_195 1 _ _ _ ⟨((if_neg c_193).trans ((if_neg c_202).trans (if_neg c_209))).symm, lv_sub hl [0, 1, 2, 3, 4, 5, 6, 7] rfl, hq⟩
                  · skip
                    refine kk_lc_le (tgt := 611) hx hb dX8_tickOnce_602 dX8_tickOnce_603 (by decide) (fun c_186 => ?_) (fun c_186 => ?_)
                    · skip
                      refine lv_aload_n hx hb dX8_tickOnce_611 rfl (lv_at hl 7 rfl) ?_
                      refine kk_get (ci := 8) (v := .ref aNw) (C := RX8) (T := TX8) (N := 22) hx hb hts iX8 hown hK hq 2 rfl rfl 0 (by decide) lk0_ rfl dX8_tickOnce_612 ?_
                      refine lv_bipush (v := 9) hx hb dX8_tickOnce_615 (by decide) ?_
                      refine kk_lald hx hb hK hq 3 0 rfl rfl 9 rfl (by decide) (by decide) dX8_tickOnce_617 ?_
                      refine W.eq (g2 := F0 m 618 ls [.long (z_43.2 9), .int 9, .ref aNw]) (by subst efNw_185 efNw_183 efNw_182 efNw_181 efNw_79 efNw_77 efNw_75 efNw_70 efNw_65 efNw_57 efNw_48; rfl) ?_
                      exact J_188 (z_43.2 9) _ _ _ ⟨(if_neg c_186).symm, lv_sub hl [0, 1, 2, 3, 4, 5, 6, 7] rfl, hq⟩
                    · skip
                      refine lv_lload hx hb dX8_tickOnce_606 (lv_at hl 0 rfl) ?_
                      refine lv_goto (tgt := 618) hx hb dX8_tickOnce_608 (by decide) ?_
                      exact J_188 x13_87 _ _ _ ⟨(if_pos c_186).symm, lv_sub hl [0, 1, 2, 3, 4, 5, 6, 7] rfl, hq⟩
                · skip
                  refine kk_lc_le (tgt := 557) hx hb dX8_tickOnce_547 dX8_tickOnce_548 (by decide) (fun c_178 => ?_) (fun c_178 => ?_)
                  · skip
                    refine lv_ldc2 hx hb hown lk9_ dX8_tickOnce_557 ?_
                    exact J_180 (-1000000) _ _ _ ⟨(if_neg c_178).symm, lv_sub hl [0, 1, 2, 3, 4, 5, 6, 7] rfl, hq⟩
                  · skip
                    refine lv_ldc2 hx hb hown lk8_ dX8_tickOnce_551 ?_
                    refine lv_goto (tgt := 560) hx hb dX8_tickOnce_554 (by decide) ?_
                    exact J_180 1000000 _ _ _ ⟨(if_pos c_178).symm, lv_sub hl [0, 1, 2, 3, 4, 5, 6, 7] rfl, hq⟩
            · skip
              refine lv_aload_n hx hb dX8_tickOnce_477 rfl (lv_at hl 6 rfl) ?_
              refine kk_get (ci := 8) (v := .ref aNw) (C := RX8) (T := TX8) (N := 22) hx hb hts iX8 hown hK hq 2 rfl rfl 0 (by decide) lk0_ rfl dX8_tickOnce_478 ?_
              refine lv_bipush (v := 10) hx hb dX8_tickOnce_481 (by decide) ?_
              refine lv_aload_n hx hb dX8_tickOnce_483 rfl (lv_at hl 6 rfl) ?_
              refine kk_get (ci := 8) (v := .ref aNw) (C := RX8) (T := TX8) (N := 22) hx hb hts iX8 hown hK hq 2 rfl rfl 0 (by decide) lk0_ rfl dX8_tickOnce_484 ?_
              refine lv_bipush (v := 10) hx hb dX8_tickOnce_487 (by decide) ?_
              refine kk_lald hx hb hK hq 3 0 rfl rfl 10 rfl (by decide) (by decide) dX8_tickOnce_489 ?_
              refine W.eq (g2 := F0 m 490 ls [.long w_78, .int 10, .ref aNw]) (by subst efNw_79; rfl) ?_
              refine lv_lconst (v := 0) hx hb dX8_tickOnce_490 (by decide) ?_
              refine kk_join1 (fun (z0_211 : Int64) (H : Heap) (locs : List Loc) (ls : Array Slot) => z0_211 = (if 0 < w_78 then 1000000 else (-1000000)) ∧ lv_has ls 16 [(11, .long x11_52), (9, .long r_21), (7, .long r_16), (5, .long z0_13), (3, .long r_3), (1, .long x1_1), (0, .ref aM)] ∧ kAt G A s [(aVs, .inl (cVs, 64, .inr (.inl u_5.2.2.2.2.2.1))), (aSg, .inl (cSg, 128, .inl u_5.2.2.2.2.2.2)), (aM, .inr (8, [.ref aNw, .ref rM_kept, .ref rM_isKept, .ref rM_refused, .int u_5.1, .int u_5.2.1, .ref aVs, .int u_5.2.2.1, .ref aSg, .int u_5.2.2.2.1, .long u_5.2.2.2.2.1, .int M_way, .int M_wish, .long M_moreTick, .long M_moreForce, .int M_runTurns, .long M_runFirst, .long M_runLast, .ref rM_was, .long M_peak, .long M_beside, .int M_besideAt])), (aNw, .inl (cNw, 139, .inr (.inl fNw_79)))] H locs) 504 (fun z0_211 => [.long z0_211, .int 10, .ref aNw]) (fun z0_211 H locs ls hv => ?_) (fun J_212 => ?_)
              · skip
                obtain ⟨ez0_211, hl, hq⟩ := hv
                refine kk_last (ws' := [(aVs, .inl (cVs, 64, .inr (.inl u_5.2.2.2.2.2.1))), (aSg, .inl (cSg, 128, .inl u_5.2.2.2.2.2.2)), (aM, .inr (8, [.ref aNw, .ref rM_kept, .ref rM_isKept, .ref rM_refused, .int u_5.1, .int u_5.2.1, .ref aVs, .int u_5.2.2.1, .ref aSg, .int u_5.2.2.2.1, .long u_5.2.2.2.2.1, .int M_way, .int M_wish, .long M_moreTick, .long M_moreForce, .int M_runTurns, .long M_runFirst, .long M_runLast, .ref rM_was, .long M_peak, .long M_beside, .int M_besideAt])), (aNw, .inl (cNw, 139, .inr (.inl (vp_updL fNw_79 10 z0_211))))]) hx hb hK hq 3 0 rfl rfl 10 rfl (by decide) (by decide) dX8_tickOnce_504 rfl (fun H locs hq => ?_)
                obtain ⟨fNw_213, efNw_213⟩ : ∃ z : Nat → Int64, z = vp_updL fNw_79 10 z0_211 := ⟨_, rfl⟩
                rw [← efNw_213] at hq
                have agfNw_213 := AG_u efNw_213 (by assumption) (by decide)
                refine lv_aload_n hx hb dX8_tickOnce_505 rfl (lv_at hl 6 rfl) ?_
                refine kk_get (ci := 8) (v := .ref aNw) (C := RX8) (T := TX8) (N := 22) hx hb hts iX8 hown hK hq 2 rfl rfl 0 (by decide) lk0_ rfl dX8_tickOnce_506 ?_
                refine lv_bipush (v := 11) hx hb dX8_tickOnce_509 (by decide) ?_
                refine lv_lconst (v := 0) hx hb dX8_tickOnce_511 (by decide) ?_
                refine kk_last (ws' := [(aVs, .inl (cVs, 64, .inr (.inl u_5.2.2.2.2.2.1))), (aSg, .inl (cSg, 128, .inl u_5.2.2.2.2.2.2)), (aM, .inr (8, [.ref aNw, .ref rM_kept, .ref rM_isKept, .ref rM_refused, .int u_5.1, .int u_5.2.1, .ref aVs, .int u_5.2.2.1, .ref aSg, .int u_5.2.2.2.1, .long u_5.2.2.2.2.1, .int M_way, .int M_wish, .long M_moreTick, .long M_moreForce, .int M_runTurns, .long M_runFirst, .long M_runLast, .ref rM_was, .long M_peak, .long M_beside, .int M_besideAt])), (aNw, .inl (cNw, 139, .inr (.inl (vp_updL fNw_213 11 0))))]) hx hb hK hq 3 0 rfl rfl 11 rfl (by decide) (by decide) dX8_tickOnce_512 rfl (fun H locs hq => ?_)
                obtain ⟨fNw_214, efNw_214⟩ : ∃ z : Nat → Int64, z = vp_updL fNw_213 11 0 := ⟨_, rfl⟩
                rw [← efNw_214] at hq
                have agfNw_214 := AG_u efNw_214 (by assumption) (by decide)
                refine lv_aload_n hx hb dX8_tickOnce_513 rfl (lv_at hl 6 rfl) ?_
                refine kk_get (ci := 8) (v := .ref aNw) (C := RX8) (T := TX8) (N := 22) hx hb hts iX8 hown hK hq 2 rfl rfl 0 (by decide) lk0_ rfl dX8_tickOnce_514 ?_
                refine lv_iconst (v := 0) hx hb dX8_tickOnce_517 (by decide) ?_
                refine kk_lald hx hb hK hq 3 0 rfl rfl 0 rfl (by decide) (by decide) dX8_tickOnce_518 ?_
                refine W.eq (g2 := F0 m 519 ls [.long w_76]) (by subst efNw_214 efNw_213 efNw_79 efNw_77; rfl) ?_
                refine kk_Sl (As := [.long w_76]) (rest := []) (wr := [(aVs, .inl (cVs, 64, .inr (.inl u_5.2.2.2.2.2.1))), (aSg, .inl (cSg, 128, .inl u_5.2.2.2.2.2.2)), (aM, .inr (8, [.ref aNw, .ref rM_kept, .ref rM_isKept, .ref rM_refused, .int u_5.1, .int u_5.2.1, .ref aVs, .int u_5.2.2.1, .ref aSg, .int u_5.2.2.2.1, .long u_5.2.2.2.2.1, .int M_way, .int M_wish, .long M_moreTick, .long M_moreForce, .int M_runTurns, .long M_runFirst, .long M_runLast, .ref rM_was, .long M_peak, .long M_beside, .int M_besideAt])), (aNw, .inl (cNw, 139, .inr (.inl fNw_214)))]) ⟨hx, hb, hml, hown, hts⟩ (c_X8_size l G w_76) (kk_cwS 1 hts hsb wd_401 wd_402 wd_5 wd_403 rfl rfl hd_X8_size ⟨Nat.le_of_ble_eq_true rfl, Nat.le_of_ble_eq_true rfl⟩) hA hK hq [] [0, 1, 2, 3] [] rfl rfl rfl (by decide) (by decide) (by decide) rfl hl.1 rfl (Nat.le_of_ble_eq_true rfl) dX8_tickOnce_519 ⟨Nat.zero_le _, Nat.zero_le _⟩ (fun r_216 u_215 H locs h_217 hq => ?_)
                have er_216 := h_217
                have hq : kAt G A s [(aVs, .inl (cVs, 64, .inr (.inl u_5.2.2.2.2.2.1))), (aSg, .inl (cSg, 128, .inl u_5.2.2.2.2.2.2)), (aM, .inr (8, [.ref aNw, .ref rM_kept, .ref rM_isKept, .ref rM_refused, .int u_5.1, .int u_5.2.1, .ref aVs, .int u_5.2.2.1, .ref aSg, .int u_5.2.2.2.1, .long u_5.2.2.2.2.1, .int M_way, .int M_wish, .long M_moreTick, .long M_moreForce, .int M_runTurns, .long M_runFirst, .long M_runLast, .ref rM_was, .long M_peak, .long M_beside, .int M_besideAt])), (aNw, .inl (cNw, 139, .inr (.inl fNw_214)))] H locs := hq
                refine lv_ldc2 hx hb hown lk8_ dX8_tickOnce_522 ?_
                refine lv_lsub hx hb dX8_tickOnce_525 ?_
                refine lv_topl (fun x13_218 ex13_218 => ?_)
                refine lv_lstore (lv' := [(13, .long x13_218), (11, .long x11_52), (9, .long r_21), (7, .long r_16), (5, .long z0_13), (3, .long r_3), (1, .long x1_1), (0, .ref aM)]) hx hb dX8_tickOnce_526 hl (by decide) rfl (fun ls hl => ?_)
                refine lv_lload hx hb dX8_tickOnce_528 (lv_at hl 0 rfl) ?_
                refine lv_lconst (v := 0) hx hb dX8_tickOnce_530 (by decide) ?_
                refine kk_lc_le (tgt := 626) hx hb dX8_tickOnce_531 dX8_tickOnce_532 (by decide) (fun c_219 => ?_) (fun c_219 => ?_)
                · skip
                  refine lv_aload_n hx hb dX8_tickOnce_626 rfl (lv_at hl 7 rfl) ?_
                  refine kk_get (ci := 8) (v := .ref aNw) (C := RX8) (T := TX8) (N := 22) hx hb hts iX8 hown hK hq 2 rfl rfl 0 (by decide) lk0_ rfl dX8_tickOnce_627 ?_
                  refine lv_iconst (v := 1) hx hb dX8_tickOnce_630 (by decide) ?_
                  refine kk_lald hx hb hK hq 3 0 rfl rfl 1 rfl (by decide) (by decide) dX8_tickOnce_631 ?_
                  refine W.eq (g2 := F0 m 632 ls [.long w_69]) (by subst efNw_214 efNw_213 efNw_79 efNw_77 efNw_75 efNw_70; rfl) ?_
                  refine lv_lconst (v := 0) hx hb dX8_tickOnce_632 (by decide) ?_
                  refine kk_lc_eq (tgt := 691) hx hb dX8_tickOnce_633 dX8_tickOnce_634 (by decide) (fun c_220 => ?_) (fun c_220 => ?_)
                  · skip
                    refine lv_aload_n hx hb dX8_tickOnce_691 rfl (lv_at hl 7 rfl) ?_
                    refine kk_get (ci := 8) (v := .ref aNw) (C := RX8) (T := TX8) (N := 22) hx hb hts iX8 hown hK hq 2 rfl rfl 0 (by decide) lk0_ rfl dX8_tickOnce_692 ?_
                    refine lv_iconst (v := 0) hx hb dX8_tickOnce_695 (by decide) ?_
                    refine kk_lald hx hb hK hq 3 0 rfl rfl 0 rfl (by decide) (by decide) dX8_tickOnce_696 ?_
                    refine W.eq (g2 := F0 m 697 ls [.long w_76]) (by subst efNw_214 efNw_213 efNw_79 efNw_77; rfl) ?_
                    refine lv_lconst (v := 0) hx hb dX8_tickOnce_697 (by decide) ?_
                    refine kk_join1 (fun (z0_222 : Int32) (H : Heap) (locs : List Loc) (ls : Array Slot) => z0_222 = (if w_76 = 0 then 1 else if x1_1 = 0 then 0 else if fX8_signOf x1_1 = fX8_signOf w_76 then 0 else 1) ∧ lv_has ls 16 [(13, .long x13_218), (11, .long x11_52), (9, .long r_21), (7, .long r_16), (5, .long z0_13), (3, .long r_3), (1, .long x1_1), (0, .ref aM)] ∧ kAt G A s [(aVs, .inl (cVs, 64, .inr (.inl u_5.2.2.2.2.2.1))), (aSg, .inl (cSg, 128, .inl u_5.2.2.2.2.2.2)), (aM, .inr (8, [.ref aNw, .ref rM_kept, .ref rM_isKept, .ref rM_refused, .int u_5.1, .int u_5.2.1, .ref aVs, .int u_5.2.2.1, .ref aSg, .int u_5.2.2.2.1, .long u_5.2.2.2.2.1, .int M_way, .int M_wish, .long M_moreTick, .long M_moreForce, .int M_runTurns, .long M_runFirst, .long M_runLast, .ref rM_was, .long M_peak, .long M_beside, .int M_besideAt])), (aNw, .inl (cNw, 139, .inr (.inl fNw_214)))] H locs) 729 (fun z0_222 => [.int z0_222]) (fun z0_222 H locs ls hv => ?_) (fun J_223 => ?_)
                    · skip
                      obtain ⟨ez0_222, hl, hq⟩ := hv
                      refine lv_istore (lv' := [(15, .int z0_222), (13, .long x13_218), (11, .long x11_52), (9, .long r_21), (7, .long r_16), (5, .long z0_13), (3, .long r_3), (1, .long x1_1), (0, .ref aM)]) hx hb dX8_tickOnce_729 hl (by decide) rfl (fun ls hl => ?_)
                      refine lv_aload_n hx hb dX8_tickOnce_731 rfl (lv_at hl 8 rfl) ?_
                      refine kk_get (ci := 8) (v := .ref aNw) (C := RX8) (T := TX8) (N := 22) hx hb hts iX8 hown hK hq 2 rfl rfl 0 (by decide) lk0_ rfl dX8_tickOnce_732 ?_
                      refine lv_iconst (v := 3) hx hb dX8_tickOnce_735 (by decide) ?_
                      refine lv_iload hx hb dX8_tickOnce_736 (lv_at hl 0 rfl) ?_
                      refine kk_join1 (fun (z0_225 : Int64) (H : Heap) (locs : List Loc) (ls : Array Slot) => z0_225 = (if z0_222 = 0 then (z_43.2 3) + 1 else 0) ∧ lv_has ls 16 [(15, .int z0_222), (13, .long x13_218), (11, .long x11_52), (9, .long r_21), (7, .long r_16), (5, .long z0_13), (3, .long r_3), (1, .long x1_1), (0, .ref aM)] ∧ kAt G A s [(aVs, .inl (cVs, 64, .inr (.inl u_5.2.2.2.2.2.1))), (aSg, .inl (cSg, 128, .inl u_5.2.2.2.2.2.2)), (aM, .inr (8, [.ref aNw, .ref rM_kept, .ref rM_isKept, .ref rM_refused, .int u_5.1, .int u_5.2.1, .ref aVs, .int u_5.2.2.1, .ref aSg, .int u_5.2.2.2.1, .long u_5.2.2.2.2.1, .int M_way, .int M_wish, .long M_moreTick, .long M_moreForce, .int M_runTurns, .long M_runFirst, .long M_runLast, .ref rM_was, .long M_peak, .long M_beside, .int M_besideAt])), (aNw, .inl (cNw, 139, .inr (.inl fNw_214)))] H locs) 753 (fun z0_225 => [.long z0_225, .int 3, .ref aNw]) (fun z0_225 H locs ls hv => ?_) (fun J_226 => ?_)
                      · skip
                        obtain ⟨ez0_225, hl, hq⟩ := hv
                        refine kk_last (ws' := [(aVs, .inl (cVs, 64, .inr (.inl u_5.2.2.2.2.2.1))), (aSg, .inl (cSg, 128, .inl u_5.2.2.2.2.2.2)), (aM, .inr (8, [.ref aNw, .ref rM_kept, .ref rM_isKept, .ref rM_refused, .int u_5.1, .int u_5.2.1, .ref aVs, .int u_5.2.2.1, .ref aSg, .int u_5.2.2.2.1, .long u_5.2.2.2.2.1, .int M_way, .int M_wish, .long M_moreTick, .long M_moreForce, .int M_runTurns, .long M_runFirst, .long M_runLast, .ref rM_was, .long M_peak, .long M_beside, .int M_besideAt])), (aNw, .inl (cNw, 139, .inr (.inl (vp_updL fNw_214 3 z0_225))))]) hx hb hK hq 3 0 rfl rfl 3 rfl (by decide) (by decide) dX8_tickOnce_753 rfl (fun H locs hq => ?_)
                        obtain ⟨fNw_227, efNw_227⟩ : ∃ z : Nat → Int64, z = vp_updL fNw_214 3 z0_225 := ⟨_, rfl⟩
                        rw [← efNw_227] at hq
                        refine lv_aload_n hx hb dX8_tickOnce_754 rfl (lv_at hl 8 rfl) ?_
                        refine kk_get (ci := 8) (v := .ref aNw) (C := RX8) (T := TX8) (N := 22) hx hb hts iX8 hown hK hq 2 rfl rfl 0 (by decide) lk0_ rfl dX8_tickOnce_755 ?_
                        refine lv_iconst (v := 5) hx hb dX8_tickOnce_758 (by decide) ?_
                        refine lv_dup2_11 hx hb dX8_tickOnce_759 rfl rfl ?_
                        refine kk_lald hx hb hK hq 3 0 rfl rfl 5 rfl (by decide) (by decide) dX8_tickOnce_760 ?_
                        refine W.eq (g2 := F0 m 761 ls [.long (z_43.2 5), .int 5, .ref aNw]) (by subst efNw_227 efNw_214 efNw_213 efNw_79 efNw_77 efNw_75 efNw_70 efNw_65 efNw_57 efNw_48; rfl) ?_
                        refine lv_lconst (v := 1) hx hb dX8_tickOnce_761 (by decide) ?_
                        refine lv_ladd hx hb dX8_tickOnce_762 ?_
                        refine lv_topl (fun w_228 ew_228 => ?_)
                        refine kk_last (ws' := [(aVs, .inl (cVs, 64, .inr (.inl u_5.2.2.2.2.2.1))), (aSg, .inl (cSg, 128, .inl u_5.2.2.2.2.2.2)), (aM, .inr (8, [.ref aNw, .ref rM_kept, .ref rM_isKept, .ref rM_refused, .int u_5.1, .int u_5.2.1, .ref aVs, .int u_5.2.2.1, .ref aSg, .int u_5.2.2.2.1, .long u_5.2.2.2.2.1, .int M_way, .int M_wish, .long M_moreTick, .long M_moreForce, .int M_runTurns, .long M_runFirst, .long M_runLast, .ref rM_was, .long M_peak, .long M_beside, .int M_besideAt])), (aNw, .inl (cNw, 139, .inr (.inl (vp_updL fNw_227 5 w_228))))]) hx hb hK hq 3 0 rfl rfl 5 rfl (by decide) (by decide) dX8_tickOnce_763 rfl (fun H locs hq => ?_)
                        obtain ⟨fNw_229, efNw_229⟩ : ∃ z : Nat → Int64, z = vp_updL fNw_227 5 w_228 := ⟨_, rfl⟩
                        rw [← efNw_229] at hq
                        have hf : ((u_5.1, u_5.2.1, u_5.2.2.1, u_5.2.2.2.1, u_5.2.2.2.2.1, M_runTurns, M_runFirst, M_runLast, fNw_229, u_5.2.2.2.2.2.1, u_5.2.2.2.2.2.2) : Int32 × Int32 × Int32 × Int32 × Int64 × Int32 × Int64 × Int64 × (Nat → Int64) × (Nat → Int64) × (Nat → Int32)) = fX8_tickOnce M_at M_fault M_valueMany M_signMany M_tells M_way M_wish M_moreTick M_moreForce M_runTurns M_runFirst M_runLast fNw fVs fSg := by
                          clear hq hl
                          subst efNw_229 ew_228 efNw_227 ez0_225 ez0_222 ex13_218 er_216 efNw_214 efNw_213 ez0_211 er_81 efNw_79 ew_78 efNw_77 ew_76 efNw_75 ew_74 er_72 efNw_70 ew_69 er_67 efNw_65 ew_64 er_62 er_59 efNw_57 ew_56 er_54 ex11_52 er_50 efNw_48 ew_47 ez0_45 ez_43 efNw_36 ez0_34 efNw_32 ew_31 er_29 efNw_27 ew_26 er_24 er_21 efNw_19 ew_18 er_16 ez0_13 er_10 ex5_8 eu_5 er_6 er_3 ex1_1
                          exact ((if_pos c_83).trans ((if_neg c_219).trans ((if_pos c_220).trans (rfl)))).symm
                        exact kk_ev hx hb hr hlocks hK hq [2, 3, 0, 1] (u_5.1, u_5.2.1, u_5.2.2.1, u_5.2.2.2.1, u_5.2.2.2.2.1, M_runTurns, M_runFirst, M_runLast, fNw_229, u_5.2.2.2.2.2.1, u_5.2.2.2.2.2.2) rfl (by decide) dX8_tickOnce_764 hf
                      · skip
                        refine lv_if_eq (tgt := 745) hx hb dX8_tickOnce_738 (by decide) (fun c_224 => ?_) (fun c_224 => ?_)
                        · skip
                          refine lv_aload_n hx hb dX8_tickOnce_745 rfl (lv_at hl 8 rfl) ?_
                          refine kk_get (ci := 8) (v := .ref aNw) (C := RX8) (T := TX8) (N := 22) hx hb hts iX8 hown hK hq 2 rfl rfl 0 (by decide) lk0_ rfl dX8_tickOnce_746 ?_
                          refine lv_iconst (v := 3) hx hb dX8_tickOnce_749 (by decide) ?_
                          refine kk_lald hx hb hK hq 3 0 rfl rfl 3 rfl (by decide) (by decide) dX8_tickOnce_750 ?_
                          refine W.eq (g2 := F0 m 751 ls [.long (z_43.2 3), .int 3, .ref aNw]) (by subst efNw_214 efNw_213 efNw_79 efNw_77 efNw_75 efNw_70 efNw_65 efNw_57 efNw_48; rfl) ?_
                          refine lv_lconst (v := 1) hx hb dX8_tickOnce_751 (by decide) ?_
                          refine lv_ladd hx hb dX8_tickOnce_752 ?_
                          exact J_226 ((z_43.2 3) + 1) _ _ _ ⟨(if_pos c_224).symm, lv_sub hl [0, 1, 2, 3, 4, 5, 6, 7, 8] rfl, hq⟩
                        · skip
                          refine lv_lconst (v := 0) hx hb dX8_tickOnce_741 (by decide) ?_
                          refine lv_goto (tgt := 753) hx hb dX8_tickOnce_742 (by decide) ?_
                          exact J_226 0 _ _ _ ⟨(if_neg c_224).symm, lv_sub hl [0, 1, 2, 3, 4, 5, 6, 7, 8] rfl, hq⟩
                    · skip
                      refine kk_lc_eq (tgt := 724) hx hb dX8_tickOnce_698 dX8_tickOnce_699 (by decide) (fun c_221 => ?_) (fun c_221 => ?_)
                      · skip
                        refine lv_iconst (v := 1) hx hb dX8_tickOnce_724 (by decide) ?_
                        refine lv_goto (tgt := 729) hx hb dX8_tickOnce_725 (by decide) ?_
                        exact J_223 1 _ _ _ ⟨(if_pos c_221).symm, lv_sub hl [0, 1, 2, 3, 4, 5, 6, 7] rfl, hq⟩
                      · skip
                        refine lv_lload_n hx hb dX8_tickOnce_702 rfl (lv_at hl 6 rfl) ?_
                        refine lv_lconst (v := 0) hx hb dX8_tickOnce_703 (by decide) ?_
                        refine kk_lc_eq (tgt := 728) hx hb dX8_tickOnce_704 dX8_tickOnce_705 (by decide) (fun c_230 => ?_) (fun c_230 => ?_)
                        · skip
                          refine lv_iconst (v := 0) hx hb dX8_tickOnce_728 (by decide) ?_
                          exact J_223 0 _ _ _ ⟨((if_neg c_221).trans (if_pos c_230)).symm, lv_sub hl [0, 1, 2, 3, 4, 5, 6, 7] rfl, hq⟩
                        · skip
                          refine lv_lload_n hx hb dX8_tickOnce_708 rfl (lv_at hl 6 rfl) ?_
                          refine kk_Si (As := [.long x1_1]) (rest := []) (wr := [(aVs, .inl (cVs, 64, .inr (.inl u_5.2.2.2.2.2.1))), (aSg, .inl (cSg, 128, .inl u_5.2.2.2.2.2.2)), (aM, .inr (8, [.ref aNw, .ref rM_kept, .ref rM_isKept, .ref rM_refused, .int u_5.1, .int u_5.2.1, .ref aVs, .int u_5.2.2.1, .ref aSg, .int u_5.2.2.2.1, .long u_5.2.2.2.2.1, .int M_way, .int M_wish, .long M_moreTick, .long M_moreForce, .int M_runTurns, .long M_runFirst, .long M_runLast, .ref rM_was, .long M_peak, .long M_beside, .int M_besideAt])), (aNw, .inl (cNw, 139, .inr (.inl fNw_214)))]) ⟨hx, hb, hml, hown, hts⟩ (c_X8_signOf l G x1_1) (kk_cwS 1 hts hsb wd_568 wd_569 wd_5 wd_570 rfl rfl hd_X8_signOf ⟨Nat.le_of_ble_eq_true rfl, Nat.le_of_ble_eq_true rfl⟩) hA hK hq [] [0, 1, 2, 3] [] rfl rfl rfl (by decide) (by decide) (by decide) rfl hl.1 rfl (Nat.le_of_ble_eq_true rfl) dX8_tickOnce_709 ⟨Nat.zero_le _, Nat.zero_le _⟩ (fun r_232 u_231 H locs h_233 hq => ?_)
                          obtain rfl := h_233
                          have hq : kAt G A s [(aVs, .inl (cVs, 64, .inr (.inl u_5.2.2.2.2.2.1))), (aSg, .inl (cSg, 128, .inl u_5.2.2.2.2.2.2)), (aM, .inr (8, [.ref aNw, .ref rM_kept, .ref rM_isKept, .ref rM_refused, .int u_5.1, .int u_5.2.1, .ref aVs, .int u_5.2.2.1, .ref aSg, .int u_5.2.2.2.1, .long u_5.2.2.2.2.1, .int M_way, .int M_wish, .long M_moreTick, .long M_moreForce, .int M_runTurns, .long M_runFirst, .long M_runLast, .ref rM_was, .long M_peak, .long M_beside, .int M_besideAt])), (aNw, .inl (cNw, 139, .inr (.inl fNw_214)))] H locs := hq
                          refine lv_aload_n hx hb dX8_tickOnce_712 rfl (lv_at hl 7 rfl) ?_
                          refine kk_get (ci := 8) (v := .ref aNw) (C := RX8) (T := TX8) (N := 22) hx hb hts iX8 hown hK hq 2 rfl rfl 0 (by decide) lk0_ rfl dX8_tickOnce_713 ?_
                          refine lv_iconst (v := 0) hx hb dX8_tickOnce_716 (by decide) ?_
                          refine kk_lald hx hb hK hq 3 0 rfl rfl 0 rfl (by decide) (by decide) dX8_tickOnce_717 ?_
                          refine W.eq (g2 := F0 m 718 ls [.long w_76, .int (fX8_signOf x1_1)]) (by subst efNw_214 efNw_213 efNw_79 efNw_77; rfl) ?_
                          refine kk_Si (As := [.long w_76]) (rest := [.int (fX8_signOf x1_1)]) (wr := [(aVs, .inl (cVs, 64, .inr (.inl u_5.2.2.2.2.2.1))), (aSg, .inl (cSg, 128, .inl u_5.2.2.2.2.2.2)), (aM, .inr (8, [.ref aNw, .ref rM_kept, .ref rM_isKept, .ref rM_refused, .int u_5.1, .int u_5.2.1, .ref aVs, .int u_5.2.2.1, .ref aSg, .int u_5.2.2.2.1, .long u_5.2.2.2.2.1, .int M_way, .int M_wish, .long M_moreTick, .long M_moreForce, .int M_runTurns, .long M_runFirst, .long M_runLast, .ref rM_was, .long M_peak, .long M_beside, .int M_besideAt])), (aNw, .inl (cNw, 139, .inr (.inl fNw_214)))]) ⟨hx, hb, hml, hown, hts⟩ (c_X8_signOf l G w_76) (kk_cwS 1 hts hsb wd_568 wd_569 wd_5 wd_570 rfl rfl hd_X8_signOf ⟨Nat.le_of_ble_eq_true rfl, Nat.le_of_ble_eq_true rfl⟩) hA hK hq [] [0, 1, 2, 3] [] rfl rfl rfl (by decide) (by decide) (by decide) rfl hl.1 rfl (Nat.le_of_ble_eq_true rfl) dX8_tickOnce_718 ⟨Nat.zero_le _, Nat.zero_le _⟩ (fun r_235 u_234 H locs h_236 hq => ?_)
                          obtain rfl := h_236
                          have hq : kAt G A s [(aVs, .inl (cVs, 64, .inr (.inl u_5.2.2.2.2.2.1))), (aSg, .inl (cSg, 128, .inl u_5.2.2.2.2.2.2)), (aM, .inr (8, [.ref aNw, .ref rM_kept, .ref rM_isKept, .ref rM_refused, .int u_5.1, .int u_5.2.1, .ref aVs, .int u_5.2.2.1, .ref aSg, .int u_5.2.2.2.1, .long u_5.2.2.2.2.1, .int M_way, .int M_wish, .long M_moreTick, .long M_moreForce, .int M_runTurns, .long M_runFirst, .long M_runLast, .ref rM_was, .long M_peak, .long M_beside, .int M_besideAt])), (aNw, .inl (cNw, 139, .inr (.inl fNw_214)))] H locs := hq
                          refine lv_icmp_eq (tgt := 728) hx hb dX8_tickOnce_721 (by decide) (fun c_237 => ?_) (fun c_237 => ?_)
                          · skip
                            refine lv_iconst (v := 0) hx hb dX8_tickOnce_728 (by decide) ?_
                            exact J_223 0 _ _ _ ⟨((if_neg c_221).trans ((if_neg c_230).trans (if_pos c_237))).symm, lv_sub hl [0, 1, 2, 3, 4, 5, 6, 7] rfl, hq⟩
                          · skip
                            refine lv_iconst (v := 1) hx hb dX8_tickOnce_724 (by decide) ?_
                            refine lv_goto (tgt := 729) hx hb dX8_tickOnce_725 (by decide) ?_
                            exact J_223 1 _ _ _ ⟨((if_neg c_221).trans ((if_neg c_230).trans (if_neg c_237))).symm, lv_sub hl [0, 1, 2, 3, 4, 5, 6, 7] rfl, hq⟩
                  · skip
                    refine lv_aload_n hx hb dX8_tickOnce_637 rfl (lv_at hl 7 rfl) ?_
                    refine kk_get (ci := 8) (v := .ref aNw) (C := RX8) (T := TX8) (N := 22) hx hb hts iX8 hown hK hq 2 rfl rfl 0 (by decide) lk0_ rfl dX8_tickOnce_638 ?_
                    refine lv_bipush (v := 12) hx hb dX8_tickOnce_641 (by decide) ?_
                    refine kk_lald hx hb hK hq 3 0 rfl rfl 12 rfl (by decide) (by decide) dX8_tickOnce_643 ?_
                    refine W.eq (g2 := F0 m 644 ls [.long (z_43.2 12)]) (by subst efNw_214 efNw_213 efNw_79 efNw_77 efNw_75 efNw_70 efNw_65 efNw_57 efNw_48; rfl) ?_
                    refine lv_lconst (v := 0) hx hb dX8_tickOnce_644 (by decide) ?_
                    refine kk_lc_eq (tgt := 674) hx hb dX8_tickOnce_645 dX8_tickOnce_646 (by decide) (fun c_238 => ?_) (fun c_238 => ?_)
                    · skip
                      refine lv_aload_n hx hb dX8_tickOnce_674 rfl (lv_at hl 7 rfl) ?_
                      refine kk_get (ci := 8) (v := .ref aNw) (C := RX8) (T := TX8) (N := 22) hx hb hts iX8 hown hK hq 2 rfl rfl 0 (by decide) lk0_ rfl dX8_tickOnce_675 ?_
                      refine lv_bipush (v := 12) hx hb dX8_tickOnce_678 (by decide) ?_
                      refine lv_aload_n hx hb dX8_tickOnce_680 rfl (lv_at hl 7 rfl) ?_
                      refine kk_get (ci := 8) (v := .ref aNw) (C := RX8) (T := TX8) (N := 22) hx hb hts iX8 hown hK hq 2 rfl rfl 0 (by decide) lk0_ rfl dX8_tickOnce_681 ?_
                      refine lv_iconst (v := 1) hx hb dX8_tickOnce_684 (by decide) ?_
                      refine kk_lald hx hb hK hq 3 0 rfl rfl 1 rfl (by decide) (by decide) dX8_tickOnce_685 ?_
                      refine W.eq (g2 := F0 m 686 ls [.long w_69, .int 12, .ref aNw]) (by subst efNw_214 efNw_213 efNw_79 efNw_77 efNw_75 efNw_70; rfl) ?_
                      refine kk_Si (As := [.long w_69]) (rest := [.int 12, .ref aNw]) (wr := [(aVs, .inl (cVs, 64, .inr (.inl u_5.2.2.2.2.2.1))), (aSg, .inl (cSg, 128, .inl u_5.2.2.2.2.2.2)), (aM, .inr (8, [.ref aNw, .ref rM_kept, .ref rM_isKept, .ref rM_refused, .int u_5.1, .int u_5.2.1, .ref aVs, .int u_5.2.2.1, .ref aSg, .int u_5.2.2.2.1, .long u_5.2.2.2.2.1, .int M_way, .int M_wish, .long M_moreTick, .long M_moreForce, .int M_runTurns, .long M_runFirst, .long M_runLast, .ref rM_was, .long M_peak, .long M_beside, .int M_besideAt])), (aNw, .inl (cNw, 139, .inr (.inl fNw_214)))]) ⟨hx, hb, hml, hown, hts⟩ (c_X8_signOf l G w_69) (kk_cwS 1 hts hsb wd_568 wd_569 wd_5 wd_570 rfl rfl hd_X8_signOf ⟨Nat.le_of_ble_eq_true rfl, Nat.le_of_ble_eq_true rfl⟩) hA hK hq [] [0, 1, 2, 3] [] rfl rfl rfl (by decide) (by decide) (by decide) rfl hl.1 rfl (Nat.le_of_ble_eq_true rfl) dX8_tickOnce_686 ⟨Nat.zero_le _, Nat.zero_le _⟩ (fun r_240 u_239 H locs h_241 hq => ?_)
                      have er_240 := h_241
                      have hq : kAt G A s [(aVs, .inl (cVs, 64, .inr (.inl u_5.2.2.2.2.2.1))), (aSg, .inl (cSg, 128, .inl u_5.2.2.2.2.2.2)), (aM, .inr (8, [.ref aNw, .ref rM_kept, .ref rM_isKept, .ref rM_refused, .int u_5.1, .int u_5.2.1, .ref aVs, .int u_5.2.2.1, .ref aSg, .int u_5.2.2.2.1, .long u_5.2.2.2.2.1, .int M_way, .int M_wish, .long M_moreTick, .long M_moreForce, .int M_runTurns, .long M_runFirst, .long M_runLast, .ref rM_was, .long M_peak, .long M_beside, .int M_besideAt])), (aNw, .inl (cNw, 139, .inr (.inl fNw_214)))] H locs := hq
                      refine lv_i2l hx hb dX8_tickOnce_689 rfl ?_
                      refine kk_last (ws' := [(aVs, .inl (cVs, 64, .inr (.inl u_5.2.2.2.2.2.1))), (aSg, .inl (cSg, 128, .inl u_5.2.2.2.2.2.2)), (aM, .inr (8, [.ref aNw, .ref rM_kept, .ref rM_isKept, .ref rM_refused, .int u_5.1, .int u_5.2.1, .ref aVs, .int u_5.2.2.1, .ref aSg, .int u_5.2.2.2.1, .long u_5.2.2.2.2.1, .int M_way, .int M_wish, .long M_moreTick, .long M_moreForce, .int M_runTurns, .long M_runFirst, .long M_runLast, .ref rM_was, .long M_peak, .long M_beside, .int M_besideAt])), (aNw, .inl (cNw, 139, .inr (.inl (vp_updL fNw_214 12 r_240.toInt64))))]) hx hb hK hq 3 0 rfl rfl 12 rfl (by decide) (by decide) dX8_tickOnce_690 rfl (fun H locs hq => ?_)
                      obtain ⟨fNw_242, efNw_242⟩ : ∃ z : Nat → Int64, z = vp_updL fNw_214 12 r_240.toInt64 := ⟨_, rfl⟩
                      rw [← efNw_242] at hq
                      refine lv_aload_n hx hb dX8_tickOnce_691 rfl (lv_at hl 7 rfl) ?_
                      refine kk_get (ci := 8) (v := .ref aNw) (C := RX8) (T := TX8) (N := 22) hx hb hts iX8 hown hK hq 2 rfl rfl 0 (by decide) lk0_ rfl dX8_tickOnce_692 ?_
                      refine lv_iconst (v := 0) hx hb dX8_tickOnce_695 (by decide) ?_
                      refine kk_lald hx hb hK hq 3 0 rfl rfl 0 rfl (by decide) (by decide) dX8_tickOnce_696 ?_
                      refine W.eq (g2 := F0 m 697 ls [.long w_76]) (by subst efNw_242 efNw_214 efNw_213 efNw_79 efNw_77; rfl) ?_
                      refine lv_lconst (v := 0) hx hb dX8_tickOnce_697 (by decide) ?_
                      refine kk_join1 (fun (z0_244 : Int32) (H : Heap) (locs : List Loc) (ls : Array Slot) => z0_244 = (if w_76 = 0 then 1 else if x1_1 = 0 then 0 else if fX8_signOf x1_1 = fX8_signOf w_76 then 0 else 1) ∧ lv_has ls 16 [(13, .long x13_218), (11, .long x11_52), (9, .long r_21), (7, .long r_16), (5, .long z0_13), (3, .long r_3), (1, .long x1_1), (0, .ref aM)] ∧ kAt G A s [(aVs, .inl (cVs, 64, .inr (.inl u_5.2.2.2.2.2.1))), (aSg, .inl (cSg, 128, .inl u_5.2.2.2.2.2.2)), (aM, .inr (8, [.ref aNw, .ref rM_kept, .ref rM_isKept, .ref rM_refused, .int u_5.1, .int u_5.2.1, .ref aVs, .int u_5.2.2.1, .ref aSg, .int u_5.2.2.2.1, .long u_5.2.2.2.2.1, .int M_way, .int M_wish, .long M_moreTick, .long M_moreForce, .int M_runTurns, .long M_runFirst, .long M_runLast, .ref rM_was, .long M_peak, .long M_beside, .int M_besideAt])), (aNw, .inl (cNw, 139, .inr (.inl fNw_242)))] H locs) 729 (fun z0_244 => [.int z0_244]) (fun z0_244 H locs ls hv => ?_) (fun J_245 => ?_)
                      · skip
                        obtain ⟨ez0_244, hl, hq⟩ := hv
                        refine lv_istore (lv' := [(15, .int z0_244), (13, .long x13_218), (11, .long x11_52), (9, .long r_21), (7, .long r_16), (5, .long z0_13), (3, .long r_3), (1, .long x1_1), (0, .ref aM)]) hx hb dX8_tickOnce_729 hl (by decide) rfl (fun ls hl => ?_)
                        refine lv_aload_n hx hb dX8_tickOnce_731 rfl (lv_at hl 8 rfl) ?_
                        refine kk_get (ci := 8) (v := .ref aNw) (C := RX8) (T := TX8) (N := 22) hx hb hts iX8 hown hK hq 2 rfl rfl 0 (by decide) lk0_ rfl dX8_tickOnce_732 ?_
                        refine lv_iconst (v := 3) hx hb dX8_tickOnce_735 (by decide) ?_
                        refine lv_iload hx hb dX8_tickOnce_736 (lv_at hl 0 rfl) ?_
                        refine kk_join1 (fun (z0_247 : Int64) (H : Heap) (locs : List Loc) (ls : Array Slot) => z0_247 = (if z0_244 = 0 then (z_43.2 3) + 1 else 0) ∧ lv_has ls 16 [(15, .int z0_244), (13, .long x13_218), (11, .long x11_52), (9, .long r_21), (7, .long r_16), (5, .long z0_13), (3, .long r_3), (1, .long x1_1), (0, .ref aM)] ∧ kAt G A s [(aVs, .inl (cVs, 64, .inr (.inl u_5.2.2.2.2.2.1))), (aSg, .inl (cSg, 128, .inl u_5.2.2.2.2.2.2)), (aM, .inr (8, [.ref aNw, .ref rM_kept, .ref rM_isKept, .ref rM_refused, .int u_5.1, .int u_5.2.1, .ref aVs, .int u_5.2.2.1, .ref aSg, .int u_5.2.2.2.1, .long u_5.2.2.2.2.1, .int M_way, .int M_wish, .long M_moreTick, .long M_moreForce, .int M_runTurns, .long M_runFirst, .long M_runLast, .ref rM_was, .long M_peak, .long M_beside, .int M_besideAt])), (aNw, .inl (cNw, 139, .inr (.inl fNw_242)))] H locs) 753 (fun z0_247 => [.long z0_247, .int 3, .ref aNw]) (fun z0_247 H locs ls hv => ?_) (fun J_248 => ?_)
                        · skip
                          obtain ⟨ez0_247, hl, hq⟩ := hv
                          refine kk_last (ws' := [(aVs, .inl (cVs, 64, .inr (.inl u_5.2.2.2.2.2.1))), (aSg, .inl (cSg, 128, .inl u_5.2.2.2.2.2.2)), (aM, .inr (8, [.ref aNw, .ref rM_kept, .ref rM_isKept, .ref rM_refused, .int u_5.1, .int u_5.2.1, .ref aVs, .int u_5.2.2.1, .ref aSg, .int u_5.2.2.2.1, .long u_5.2.2.2.2.1, .int M_way, .int M_wish, .long M_moreTick, .long M_moreForce, .int M_runTurns, .long M_runFirst, .long M_runLast, .ref rM_was, .long M_peak, .long M_beside, .int M_besideAt])), (aNw, .inl (cNw, 139, .inr (.inl (vp_updL fNw_242 3 z0_247))))]) hx hb hK hq 3 0 rfl rfl 3 rfl (by decide) (by decide) dX8_tickOnce_753 rfl (fun H locs hq => ?_)
                          obtain ⟨fNw_249, efNw_249⟩ : ∃ z : Nat → Int64, z = vp_updL fNw_242 3 z0_247 := ⟨_, rfl⟩
                          rw [← efNw_249] at hq
                          refine lv_aload_n hx hb dX8_tickOnce_754 rfl (lv_at hl 8 rfl) ?_
                          refine kk_get (ci := 8) (v := .ref aNw) (C := RX8) (T := TX8) (N := 22) hx hb hts iX8 hown hK hq 2 rfl rfl 0 (by decide) lk0_ rfl dX8_tickOnce_755 ?_
                          refine lv_iconst (v := 5) hx hb dX8_tickOnce_758 (by decide) ?_
                          refine lv_dup2_11 hx hb dX8_tickOnce_759 rfl rfl ?_
                          refine kk_lald hx hb hK hq 3 0 rfl rfl 5 rfl (by decide) (by decide) dX8_tickOnce_760 ?_
                          refine W.eq (g2 := F0 m 761 ls [.long (z_43.2 5), .int 5, .ref aNw]) (by subst efNw_249 efNw_242 efNw_214 efNw_213 efNw_79 efNw_77 efNw_75 efNw_70 efNw_65 efNw_57 efNw_48; rfl) ?_
                          refine lv_lconst (v := 1) hx hb dX8_tickOnce_761 (by decide) ?_
                          refine lv_ladd hx hb dX8_tickOnce_762 ?_
                          refine lv_topl (fun w_250 ew_250 => ?_)
                          refine kk_last (ws' := [(aVs, .inl (cVs, 64, .inr (.inl u_5.2.2.2.2.2.1))), (aSg, .inl (cSg, 128, .inl u_5.2.2.2.2.2.2)), (aM, .inr (8, [.ref aNw, .ref rM_kept, .ref rM_isKept, .ref rM_refused, .int u_5.1, .int u_5.2.1, .ref aVs, .int u_5.2.2.1, .ref aSg, .int u_5.2.2.2.1, .long u_5.2.2.2.2.1, .int M_way, .int M_wish, .long M_moreTick, .long M_moreForce, .int M_runTurns, .long M_runFirst, .long M_runLast, .ref rM_was, .long M_peak, .long M_beside, .int M_besideAt])), (aNw, .inl (cNw, 139, .inr (.inl (vp_updL fNw_249 5 w_250))))]) hx hb hK hq 3 0 rfl rfl 5 rfl (by decide) (by decide) dX8_tickOnce_763 rfl (fun H locs hq => ?_)
                          obtain ⟨fNw_251, efNw_251⟩ : ∃ z : Nat → Int64, z = vp_updL fNw_249 5 w_250 := ⟨_, rfl⟩
                          rw [← efNw_251] at hq
                          have hf : ((u_5.1, u_5.2.1, u_5.2.2.1, u_5.2.2.2.1, u_5.2.2.2.2.1, M_runTurns, M_runFirst, M_runLast, fNw_251, u_5.2.2.2.2.2.1, u_5.2.2.2.2.2.2) : Int32 × Int32 × Int32 × Int32 × Int64 × Int32 × Int64 × Int64 × (Nat → Int64) × (Nat → Int64) × (Nat → Int32)) = fX8_tickOnce M_at M_fault M_valueMany M_signMany M_tells M_way M_wish M_moreTick M_moreForce M_runTurns M_runFirst M_runLast fNw fVs fSg := by
                            clear hq hl
                            subst efNw_251 ew_250 efNw_249 ez0_247 ez0_244 efNw_242 er_240 ex13_218 er_216 efNw_214 efNw_213 ez0_211 er_81 efNw_79 ew_78 efNw_77 ew_76 efNw_75 ew_74 er_72 efNw_70 ew_69 er_67 efNw_65 ew_64 er_62 er_59 efNw_57 ew_56 er_54 ex11_52 er_50 efNw_48 ew_47 ez0_45 ez_43 efNw_36 ez0_34 efNw_32 ew_31 er_29 efNw_27 ew_26 er_24 er_21 efNw_19 ew_18 er_16 ez0_13 er_10 ex5_8 eu_5 er_6 er_3 ex1_1
                            exact ((if_pos c_83).trans ((if_neg c_219).trans ((if_neg c_220).trans ((if_pos c_238).trans (rfl))))).symm
                          exact kk_ev hx hb hr hlocks hK hq [2, 3, 0, 1] (u_5.1, u_5.2.1, u_5.2.2.1, u_5.2.2.2.1, u_5.2.2.2.2.1, M_runTurns, M_runFirst, M_runLast, fNw_251, u_5.2.2.2.2.2.1, u_5.2.2.2.2.2.2) rfl (by decide) dX8_tickOnce_764 hf
                        · skip
                          refine lv_if_eq (tgt := 745) hx hb dX8_tickOnce_738 (by decide) (fun c_246 => ?_) (fun c_246 => ?_)
                          · skip
                            refine lv_aload_n hx hb dX8_tickOnce_745 rfl (lv_at hl 8 rfl) ?_
                            refine kk_get (ci := 8) (v := .ref aNw) (C := RX8) (T := TX8) (N := 22) hx hb hts iX8 hown hK hq 2 rfl rfl 0 (by decide) lk0_ rfl dX8_tickOnce_746 ?_
                            refine lv_iconst (v := 3) hx hb dX8_tickOnce_749 (by decide) ?_
                            refine kk_lald hx hb hK hq 3 0 rfl rfl 3 rfl (by decide) (by decide) dX8_tickOnce_750 ?_
                            refine W.eq (g2 := F0 m 751 ls [.long (z_43.2 3), .int 3, .ref aNw]) (by subst efNw_242 efNw_214 efNw_213 efNw_79 efNw_77 efNw_75 efNw_70 efNw_65 efNw_57 efNw_48; rfl) ?_
                            refine lv_lconst (v := 1) hx hb dX8_tickOnce_751 (by decide) ?_
                            refine lv_ladd hx hb dX8_tickOnce_752 ?_
                            exact J_248 ((z_43.2 3) + 1) _ _ _ ⟨(if_pos c_246).symm, lv_sub hl [0, 1, 2, 3, 4, 5, 6, 7, 8] rfl, hq⟩
                          · skip
                            refine lv_lconst (v := 0) hx hb dX8_tickOnce_741 (by decide) ?_
                            refine lv_goto (tgt := 753) hx hb dX8_tickOnce_742 (by decide) ?_
                            exact J_248 0 _ _ _ ⟨(if_neg c_246).symm, lv_sub hl [0, 1, 2, 3, 4, 5, 6, 7, 8] rfl, hq⟩
                      · skip
                        refine kk_lc_eq (tgt := 724) hx hb dX8_tickOnce_698 dX8_tickOnce_699 (by decide) (fun c_243 => ?_) (fun c_243 => ?_)
                        · skip
                          refine lv_iconst (v := 1) hx hb dX8_tickOnce_724 (by decide) ?_
                          refine lv_goto (tgt := 729) hx hb dX8_tickOnce_725 (by decide) ?_
                          exact J_245 1 _ _ _ ⟨(if_pos c_243).symm, lv_sub hl [0, 1, 2, 3, 4, 5, 6, 7] rfl, hq⟩
                        · skip
                          refine lv_lload_n hx hb dX8_tickOnce_702 rfl (lv_at hl 6 rfl) ?_
                          refine lv_lconst (v := 0) hx hb dX8_tickOnce_703 (by decide) ?_
                          refine kk_lc_eq (tgt := 728) hx hb dX8_tickOnce_704 dX8_tickOnce_705 (by decide) (fun c_252 => ?_) (fun c_252 => ?_)
                          · skip
                            refine lv_iconst (v := 0) hx hb dX8_tickOnce_728 (by decide) ?_
                            exact J_245 0 _ _ _ ⟨((if_neg c_243).trans (if_pos c_252)).symm, lv_sub hl [0, 1, 2, 3, 4, 5, 6, 7] rfl, hq⟩
                          · skip
                            refine lv_lload_n hx hb dX8_tickOnce_708 rfl (lv_at hl 6 rfl) ?_
                            refine kk_Si (As := [.long x1_1]) (rest := []) (wr := [(aVs, .inl (cVs, 64, .inr (.inl u_5.2.2.2.2.2.1))), (aSg, .inl (cSg, 128, .inl u_5.2.2.2.2.2.2)), (aM, .inr (8, [.ref aNw, .ref rM_kept, .ref rM_isKept, .ref rM_refused, .int u_5.1, .int u_5.2.1, .ref aVs, .int u_5.2.2.1, .ref aSg, .int u_5.2.2.2.1, .long u_5.2.2.2.2.1, .int M_way, .int M_wish, .long M_moreTick, .long M_moreForce, .int M_runTurns, .long M_runFirst, .long M_runLast, .ref rM_was, .long M_peak, .long M_beside, .int M_besideAt])), (aNw, .inl (cNw, 139, .inr (.inl fNw_242)))]) ⟨hx, hb, hml, hown, hts⟩ (c_X8_signOf l G x1_1) (kk_cwS 1 hts hsb wd_568 wd_569 wd_5 wd_570 rfl rfl hd_X8_signOf ⟨Nat.le_of_ble_eq_true rfl, Nat.le_of_ble_eq_true rfl⟩) hA hK hq [] [0, 1, 2, 3] [] rfl rfl rfl (by decide) (by decide) (by decide) rfl hl.1 rfl (Nat.le_of_ble_eq_true rfl) dX8_tickOnce_709 ⟨Nat.zero_le _, Nat.zero_le _⟩ (fun r_254 u_253 H locs h_255 hq => ?_)
                            obtain rfl := h_255
                            have hq : kAt G A s [(aVs, .inl (cVs, 64, .inr (.inl u_5.2.2.2.2.2.1))), (aSg, .inl (cSg, 128, .inl u_5.2.2.2.2.2.2)), (aM, .inr (8, [.ref aNw, .ref rM_kept, .ref rM_isKept, .ref rM_refused, .int u_5.1, .int u_5.2.1, .ref aVs, .int u_5.2.2.1, .ref aSg, .int u_5.2.2.2.1, .long u_5.2.2.2.2.1, .int M_way, .int M_wish, .long M_moreTick, .long M_moreForce, .int M_runTurns, .long M_runFirst, .long M_runLast, .ref rM_was, .long M_peak, .long M_beside, .int M_besideAt])), (aNw, .inl (cNw, 139, .inr (.inl fNw_242)))] H locs := hq
                            refine lv_aload_n hx hb dX8_tickOnce_712 rfl (lv_at hl 7 rfl) ?_
                            refine kk_get (ci := 8) (v := .ref aNw) (C := RX8) (T := TX8) (N := 22) hx hb hts iX8 hown hK hq 2 rfl rfl 0 (by decide) lk0_ rfl dX8_tickOnce_713 ?_
                            refine lv_iconst (v := 0) hx hb dX8_tickOnce_716 (by decide) ?_
                            refine kk_lald hx hb hK hq 3 0 rfl rfl 0 rfl (by decide) (by decide) dX8_tickOnce_717 ?_
                            refine W.eq (g2 := F0 m 718 ls [.long w_76, .int (fX8_signOf x1_1)]) (by subst efNw_242 efNw_214 efNw_213 efNw_79 efNw_77; rfl) ?_
                            refine kk_Si (As := [.long w_76]) (rest := [.int (fX8_signOf x1_1)]) (wr := [(aVs, .inl (cVs, 64, .inr (.inl u_5.2.2.2.2.2.1))), (aSg, .inl (cSg, 128, .inl u_5.2.2.2.2.2.2)), (aM, .inr (8, [.ref aNw, .ref rM_kept, .ref rM_isKept, .ref rM_refused, .int u_5.1, .int u_5.2.1, .ref aVs, .int u_5.2.2.1, .ref aSg, .int u_5.2.2.2.1, .long u_5.2.2.2.2.1, .int M_way, .int M_wish, .long M_moreTick, .long M_moreForce, .int M_runTurns, .long M_runFirst, .long M_runLast, .ref rM_was, .long M_peak, .long M_beside, .int M_besideAt])), (aNw, .inl (cNw, 139, .inr (.inl fNw_242)))]) ⟨hx, hb, hml, hown, hts⟩ (c_X8_signOf l G w_76) (kk_cwS 1 hts hsb wd_568 wd_569 wd_5 wd_570 rfl rfl hd_X8_signOf ⟨Nat.le_of_ble_eq_true rfl, Nat.le_of_ble_eq_true rfl⟩) hA hK hq [] [0, 1, 2, 3] [] rfl rfl rfl (by decide) (by decide) (by decide) rfl hl.1 rfl (Nat.le_of_ble_eq_true rfl) dX8_tickOnce_718 ⟨Nat.zero_le _, Nat.zero_le _⟩ (fun r_257 u_256 H locs h_258 hq => ?_)
                            obtain rfl := h_258
                            have hq : kAt G A s [(aVs, .inl (cVs, 64, .inr (.inl u_5.2.2.2.2.2.1))), (aSg, .inl (cSg, 128, .inl u_5.2.2.2.2.2.2)), (aM, .inr (8, [.ref aNw, .ref rM_kept, .ref rM_isKept, .ref rM_refused, .int u_5.1, .int u_5.2.1, .ref aVs, .int u_5.2.2.1, .ref aSg, .int u_5.2.2.2.1, .long u_5.2.2.2.2.1, .int M_way, .int M_wish, .long M_moreTick, .long M_moreForce, .int M_runTurns, .long M_runFirst, .long M_runLast, .ref rM_was, .long M_peak, .long M_beside, .int M_besideAt])), (aNw, .inl (cNw, 139, .inr (.inl fNw_242)))] H locs := hq
                            refine lv_icmp_eq (tgt := 728) hx hb dX8_tickOnce_721 (by decide) (fun c_259 => ?_) (fun c_259 => ?_)
                            · skip
                              refine lv_iconst (v := 0) hx hb dX8_tickOnce_728 (by decide) ?_
                              exact J_245 0 _ _ _ ⟨((if_neg c_243).trans ((if_neg c_252).trans (if_pos c_259))).symm, lv_sub hl [0, 1, 2, 3, 4, 5, 6, 7] rfl, hq⟩
                            · skip
                              refine lv_iconst (v := 1) hx hb dX8_tickOnce_724 (by decide) ?_
                              refine lv_goto (tgt := 729) hx hb dX8_tickOnce_725 (by decide) ?_
                              exact J_245 1 _ _ _ ⟨((if_neg c_243).trans ((if_neg c_252).trans (if_neg c_259))).symm, lv_sub hl [0, 1, 2, 3, 4, 5, 6, 7] rfl, hq⟩
                    · skip
                      refine lv_aload_n hx hb dX8_tickOnce_649 rfl (lv_at hl 7 rfl) ?_
                      refine kk_get (ci := 8) (v := .ref aNw) (C := RX8) (T := TX8) (N := 22) hx hb hts iX8 hown hK hq 2 rfl rfl 0 (by decide) lk0_ rfl dX8_tickOnce_650 ?_
                      refine lv_bipush (v := 12) hx hb dX8_tickOnce_653 (by decide) ?_
                      refine kk_lald hx hb hK hq 3 0 rfl rfl 12 rfl (by decide) (by decide) dX8_tickOnce_655 ?_
                      refine W.eq (g2 := F0 m 656 ls [.long (z_43.2 12)]) (by subst efNw_214 efNw_213 efNw_79 efNw_77 efNw_75 efNw_70 efNw_65 efNw_57 efNw_48; rfl) ?_
                      refine lv_aload_n hx hb dX8_tickOnce_656 rfl (lv_at hl 7 rfl) ?_
                      refine kk_get (ci := 8) (v := .ref aNw) (C := RX8) (T := TX8) (N := 22) hx hb hts iX8 hown hK hq 2 rfl rfl 0 (by decide) lk0_ rfl dX8_tickOnce_657 ?_
                      refine lv_iconst (v := 1) hx hb dX8_tickOnce_660 (by decide) ?_
                      refine kk_lald hx hb hK hq 3 0 rfl rfl 1 rfl (by decide) (by decide) dX8_tickOnce_661 ?_
                      refine W.eq (g2 := F0 m 662 ls [.long w_69, .long (z_43.2 12)]) (by subst efNw_214 efNw_213 efNw_79 efNw_77 efNw_75 efNw_70; rfl) ?_
                      refine kk_Si (As := [.long w_69]) (rest := [.long (z_43.2 12)]) (wr := [(aVs, .inl (cVs, 64, .inr (.inl u_5.2.2.2.2.2.1))), (aSg, .inl (cSg, 128, .inl u_5.2.2.2.2.2.2)), (aM, .inr (8, [.ref aNw, .ref rM_kept, .ref rM_isKept, .ref rM_refused, .int u_5.1, .int u_5.2.1, .ref aVs, .int u_5.2.2.1, .ref aSg, .int u_5.2.2.2.1, .long u_5.2.2.2.2.1, .int M_way, .int M_wish, .long M_moreTick, .long M_moreForce, .int M_runTurns, .long M_runFirst, .long M_runLast, .ref rM_was, .long M_peak, .long M_beside, .int M_besideAt])), (aNw, .inl (cNw, 139, .inr (.inl fNw_214)))]) ⟨hx, hb, hml, hown, hts⟩ (c_X8_signOf l G w_69) (kk_cwS 1 hts hsb wd_568 wd_569 wd_5 wd_570 rfl rfl hd_X8_signOf ⟨Nat.le_of_ble_eq_true rfl, Nat.le_of_ble_eq_true rfl⟩) hA hK hq [] [0, 1, 2, 3] [] rfl rfl rfl (by decide) (by decide) (by decide) rfl hl.1 rfl (Nat.le_of_ble_eq_true rfl) dX8_tickOnce_662 ⟨Nat.zero_le _, Nat.zero_le _⟩ (fun r_261 u_260 H locs h_262 hq => ?_)
                      have er_261 := h_262
                      have hq : kAt G A s [(aVs, .inl (cVs, 64, .inr (.inl u_5.2.2.2.2.2.1))), (aSg, .inl (cSg, 128, .inl u_5.2.2.2.2.2.2)), (aM, .inr (8, [.ref aNw, .ref rM_kept, .ref rM_isKept, .ref rM_refused, .int u_5.1, .int u_5.2.1, .ref aVs, .int u_5.2.2.1, .ref aSg, .int u_5.2.2.2.1, .long u_5.2.2.2.2.1, .int M_way, .int M_wish, .long M_moreTick, .long M_moreForce, .int M_runTurns, .long M_runFirst, .long M_runLast, .ref rM_was, .long M_peak, .long M_beside, .int M_besideAt])), (aNw, .inl (cNw, 139, .inr (.inl fNw_214)))] H locs := hq
                      refine lv_i2l hx hb dX8_tickOnce_665 rfl ?_
                      refine kk_lc_eq (tgt := 674) hx hb dX8_tickOnce_666 dX8_tickOnce_667 (by decide) (fun c_263 => ?_) (fun c_263 => ?_)
                      · skip
                        refine lv_aload_n hx hb dX8_tickOnce_674 rfl (lv_at hl 7 rfl) ?_
                        refine kk_get (ci := 8) (v := .ref aNw) (C := RX8) (T := TX8) (N := 22) hx hb hts iX8 hown hK hq 2 rfl rfl 0 (by decide) lk0_ rfl dX8_tickOnce_675 ?_
                        refine lv_bipush (v := 12) hx hb dX8_tickOnce_678 (by decide) ?_
                        refine lv_aload_n hx hb dX8_tickOnce_680 rfl (lv_at hl 7 rfl) ?_
                        refine kk_get (ci := 8) (v := .ref aNw) (C := RX8) (T := TX8) (N := 22) hx hb hts iX8 hown hK hq 2 rfl rfl 0 (by decide) lk0_ rfl dX8_tickOnce_681 ?_
                        refine lv_iconst (v := 1) hx hb dX8_tickOnce_684 (by decide) ?_
                        refine kk_lald hx hb hK hq 3 0 rfl rfl 1 rfl (by decide) (by decide) dX8_tickOnce_685 ?_
                        refine W.eq (g2 := F0 m 686 ls [.long w_69, .int 12, .ref aNw]) (by subst efNw_214 efNw_213 efNw_79 efNw_77 efNw_75 efNw_70; rfl) ?_
                        refine kk_Si (As := [.long w_69]) (rest := [.int 12, .ref aNw]) (wr := [(aVs, .inl (cVs, 64, .inr (.inl u_5.2.2.2.2.2.1))), (aSg, .inl (cSg, 128, .inl u_5.2.2.2.2.2.2)), (aM, .inr (8, [.ref aNw, .ref rM_kept, .ref rM_isKept, .ref rM_refused, .int u_5.1, .int u_5.2.1, .ref aVs, .int u_5.2.2.1, .ref aSg, .int u_5.2.2.2.1, .long u_5.2.2.2.2.1, .int M_way, .int M_wish, .long M_moreTick, .long M_moreForce, .int M_runTurns, .long M_runFirst, .long M_runLast, .ref rM_was, .long M_peak, .long M_beside, .int M_besideAt])), (aNw, .inl (cNw, 139, .inr (.inl fNw_214)))]) ⟨hx, hb, hml, hown, hts⟩ (c_X8_signOf l G w_69) (kk_cwS 1 hts hsb wd_568 wd_569 wd_5 wd_570 rfl rfl hd_X8_signOf ⟨Nat.le_of_ble_eq_true rfl, Nat.le_of_ble_eq_true rfl⟩) hA hK hq [] [0, 1, 2, 3] [] rfl rfl rfl (by decide) (by decide) (by decide) rfl hl.1 rfl (Nat.le_of_ble_eq_true rfl) dX8_tickOnce_686 ⟨Nat.zero_le _, Nat.zero_le _⟩ (fun r_265 u_264 H locs h_266 hq => ?_)
                        have er_265 := h_266
                        have hq : kAt G A s [(aVs, .inl (cVs, 64, .inr (.inl u_5.2.2.2.2.2.1))), (aSg, .inl (cSg, 128, .inl u_5.2.2.2.2.2.2)), (aM, .inr (8, [.ref aNw, .ref rM_kept, .ref rM_isKept, .ref rM_refused, .int u_5.1, .int u_5.2.1, .ref aVs, .int u_5.2.2.1, .ref aSg, .int u_5.2.2.2.1, .long u_5.2.2.2.2.1, .int M_way, .int M_wish, .long M_moreTick, .long M_moreForce, .int M_runTurns, .long M_runFirst, .long M_runLast, .ref rM_was, .long M_peak, .long M_beside, .int M_besideAt])), (aNw, .inl (cNw, 139, .inr (.inl fNw_214)))] H locs := hq
                        refine lv_i2l hx hb dX8_tickOnce_689 rfl ?_
                        refine kk_last (ws' := [(aVs, .inl (cVs, 64, .inr (.inl u_5.2.2.2.2.2.1))), (aSg, .inl (cSg, 128, .inl u_5.2.2.2.2.2.2)), (aM, .inr (8, [.ref aNw, .ref rM_kept, .ref rM_isKept, .ref rM_refused, .int u_5.1, .int u_5.2.1, .ref aVs, .int u_5.2.2.1, .ref aSg, .int u_5.2.2.2.1, .long u_5.2.2.2.2.1, .int M_way, .int M_wish, .long M_moreTick, .long M_moreForce, .int M_runTurns, .long M_runFirst, .long M_runLast, .ref rM_was, .long M_peak, .long M_beside, .int M_besideAt])), (aNw, .inl (cNw, 139, .inr (.inl (vp_updL fNw_214 12 r_265.toInt64))))]) hx hb hK hq 3 0 rfl rfl 12 rfl (by decide) (by decide) dX8_tickOnce_690 rfl (fun H locs hq => ?_)
                        obtain ⟨fNw_267, efNw_267⟩ : ∃ z : Nat → Int64, z = vp_updL fNw_214 12 r_265.toInt64 := ⟨_, rfl⟩
                        rw [← efNw_267] at hq
                        refine lv_aload_n hx hb dX8_tickOnce_691 rfl (lv_at hl 7 rfl) ?_
                        refine kk_get (ci := 8) (v := .ref aNw) (C := RX8) (T := TX8) (N := 22) hx hb hts iX8 hown hK hq 2 rfl rfl 0 (by decide) lk0_ rfl dX8_tickOnce_692 ?_
                        refine lv_iconst (v := 0) hx hb dX8_tickOnce_695 (by decide) ?_
                        refine kk_lald hx hb hK hq 3 0 rfl rfl 0 rfl (by decide) (by decide) dX8_tickOnce_696 ?_
                        refine W.eq (g2 := F0 m 697 ls [.long w_76]) (by subst efNw_267 efNw_214 efNw_213 efNw_79 efNw_77; rfl) ?_
                        refine lv_lconst (v := 0) hx hb dX8_tickOnce_697 (by decide) ?_
                        refine kk_join1 (fun (z0_269 : Int32) (H : Heap) (locs : List Loc) (ls : Array Slot) => z0_269 = (if w_76 = 0 then 1 else if x1_1 = 0 then 0 else if fX8_signOf x1_1 = fX8_signOf w_76 then 0 else 1) ∧ lv_has ls 16 [(13, .long x13_218), (11, .long x11_52), (9, .long r_21), (7, .long r_16), (5, .long z0_13), (3, .long r_3), (1, .long x1_1), (0, .ref aM)] ∧ kAt G A s [(aVs, .inl (cVs, 64, .inr (.inl u_5.2.2.2.2.2.1))), (aSg, .inl (cSg, 128, .inl u_5.2.2.2.2.2.2)), (aM, .inr (8, [.ref aNw, .ref rM_kept, .ref rM_isKept, .ref rM_refused, .int u_5.1, .int u_5.2.1, .ref aVs, .int u_5.2.2.1, .ref aSg, .int u_5.2.2.2.1, .long u_5.2.2.2.2.1, .int M_way, .int M_wish, .long M_moreTick, .long M_moreForce, .int M_runTurns, .long M_runFirst, .long M_runLast, .ref rM_was, .long M_peak, .long M_beside, .int M_besideAt])), (aNw, .inl (cNw, 139, .inr (.inl fNw_267)))] H locs) 729 (fun z0_269 => [.int z0_269]) (fun z0_269 H locs ls hv => ?_) (fun J_270 => ?_)
                        · skip
                          obtain ⟨ez0_269, hl, hq⟩ := hv
                          refine lv_istore (lv' := [(15, .int z0_269), (13, .long x13_218), (11, .long x11_52), (9, .long r_21), (7, .long r_16), (5, .long z0_13), (3, .long r_3), (1, .long x1_1), (0, .ref aM)]) hx hb dX8_tickOnce_729 hl (by decide) rfl (fun ls hl => ?_)
                          refine lv_aload_n hx hb dX8_tickOnce_731 rfl (lv_at hl 8 rfl) ?_
                          refine kk_get (ci := 8) (v := .ref aNw) (C := RX8) (T := TX8) (N := 22) hx hb hts iX8 hown hK hq 2 rfl rfl 0 (by decide) lk0_ rfl dX8_tickOnce_732 ?_
                          refine lv_iconst (v := 3) hx hb dX8_tickOnce_735 (by decide) ?_
                          refine lv_iload hx hb dX8_tickOnce_736 (lv_at hl 0 rfl) ?_
                          refine kk_join1 (fun (z0_272 : Int64) (H : Heap) (locs : List Loc) (ls : Array Slot) => z0_272 = (if z0_269 = 0 then (z_43.2 3) + 1 else 0) ∧ lv_has ls 16 [(15, .int z0_269), (13, .long x13_218), (11, .long x11_52), (9, .long r_21), (7, .long r_16), (5, .long z0_13), (3, .long r_3), (1, .long x1_1), (0, .ref aM)] ∧ kAt G A s [(aVs, .inl (cVs, 64, .inr (.inl u_5.2.2.2.2.2.1))), (aSg, .inl (cSg, 128, .inl u_5.2.2.2.2.2.2)), (aM, .inr (8, [.ref aNw, .ref rM_kept, .ref rM_isKept, .ref rM_refused, .int u_5.1, .int u_5.2.1, .ref aVs, .int u_5.2.2.1, .ref aSg, .int u_5.2.2.2.1, .long u_5.2.2.2.2.1, .int M_way, .int M_wish, .long M_moreTick, .long M_moreForce, .int M_runTurns, .long M_runFirst, .long M_runLast, .ref rM_was, .long M_peak, .long M_beside, .int M_besideAt])), (aNw, .inl (cNw, 139, .inr (.inl fNw_267)))] H locs) 753 (fun z0_272 => [.long z0_272, .int 3, .ref aNw]) (fun z0_272 H locs ls hv => ?_) (fun J_273 => ?_)
                          · skip
                            obtain ⟨ez0_272, hl, hq⟩ := hv
                            refine kk_last (ws' := [(aVs, .inl (cVs, 64, .inr (.inl u_5.2.2.2.2.2.1))), (aSg, .inl (cSg, 128, .inl u_5.2.2.2.2.2.2)), (aM, .inr (8, [.ref aNw, .ref rM_kept, .ref rM_isKept, .ref rM_refused, .int u_5.1, .int u_5.2.1, .ref aVs, .int u_5.2.2.1, .ref aSg, .int u_5.2.2.2.1, .long u_5.2.2.2.2.1, .int M_way, .int M_wish, .long M_moreTick, .long M_moreForce, .int M_runTurns, .long M_runFirst, .long M_runLast, .ref rM_was, .long M_peak, .long M_beside, .int M_besideAt])), (aNw, .inl (cNw, 139, .inr (.inl (vp_updL fNw_267 3 z0_272))))]) hx hb hK hq 3 0 rfl rfl 3 rfl (by decide) (by decide) dX8_tickOnce_753 rfl (fun H locs hq => ?_)
                            obtain ⟨fNw_274, efNw_274⟩ : ∃ z : Nat → Int64, z = vp_updL fNw_267 3 z0_272 := ⟨_, rfl⟩
                            rw [← efNw_274] at hq
                            refine lv_aload_n hx hb dX8_tickOnce_754 rfl (lv_at hl 8 rfl) ?_
                            refine kk_get (ci := 8) (v := .ref aNw) (C := RX8) (T := TX8) (N := 22) hx hb hts iX8 hown hK hq 2 rfl rfl 0 (by decide) lk0_ rfl dX8_tickOnce_755 ?_
                            refine lv_iconst (v := 5) hx hb dX8_tickOnce_758 (by decide) ?_
                            refine lv_dup2_11 hx hb dX8_tickOnce_759 rfl rfl ?_
                            refine kk_lald hx hb hK hq 3 0 rfl rfl 5 rfl (by decide) (by decide) dX8_tickOnce_760 ?_
                            refine W.eq (g2 := F0 m 761 ls [.long (z_43.2 5), .int 5, .ref aNw]) (by subst efNw_274 efNw_267 efNw_214 efNw_213 efNw_79 efNw_77 efNw_75 efNw_70 efNw_65 efNw_57 efNw_48; rfl) ?_
                            refine lv_lconst (v := 1) hx hb dX8_tickOnce_761 (by decide) ?_
                            refine lv_ladd hx hb dX8_tickOnce_762 ?_
                            refine lv_topl (fun w_275 ew_275 => ?_)
                            refine kk_last (ws' := [(aVs, .inl (cVs, 64, .inr (.inl u_5.2.2.2.2.2.1))), (aSg, .inl (cSg, 128, .inl u_5.2.2.2.2.2.2)), (aM, .inr (8, [.ref aNw, .ref rM_kept, .ref rM_isKept, .ref rM_refused, .int u_5.1, .int u_5.2.1, .ref aVs, .int u_5.2.2.1, .ref aSg, .int u_5.2.2.2.1, .long u_5.2.2.2.2.1, .int M_way, .int M_wish, .long M_moreTick, .long M_moreForce, .int M_runTurns, .long M_runFirst, .long M_runLast, .ref rM_was, .long M_peak, .long M_beside, .int M_besideAt])), (aNw, .inl (cNw, 139, .inr (.inl (vp_updL fNw_274 5 w_275))))]) hx hb hK hq 3 0 rfl rfl 5 rfl (by decide) (by decide) dX8_tickOnce_763 rfl (fun H locs hq => ?_)
                            obtain ⟨fNw_276, efNw_276⟩ : ∃ z : Nat → Int64, z = vp_updL fNw_274 5 w_275 := ⟨_, rfl⟩
                            rw [← efNw_276] at hq
                            have hf : ((u_5.1, u_5.2.1, u_5.2.2.1, u_5.2.2.2.1, u_5.2.2.2.2.1, M_runTurns, M_runFirst, M_runLast, fNw_276, u_5.2.2.2.2.2.1, u_5.2.2.2.2.2.2) : Int32 × Int32 × Int32 × Int32 × Int64 × Int32 × Int64 × Int64 × (Nat → Int64) × (Nat → Int64) × (Nat → Int32)) = fX8_tickOnce M_at M_fault M_valueMany M_signMany M_tells M_way M_wish M_moreTick M_moreForce M_runTurns M_runFirst M_runLast fNw fVs fSg := by
                              clear hq hl
                              subst efNw_276 ew_275 efNw_274 ez0_272 ez0_269 efNw_267 er_265 er_261 ex13_218 er_216 efNw_214 efNw_213 ez0_211 er_81 efNw_79 ew_78 efNw_77 ew_76 efNw_75 ew_74 er_72 efNw_70 ew_69 er_67 efNw_65 ew_64 er_62 er_59 efNw_57 ew_56 er_54 ex11_52 er_50 efNw_48 ew_47 ez0_45 ez_43 efNw_36 ez0_34 efNw_32 ew_31 er_29 efNw_27 ew_26 er_24 er_21 efNw_19 ew_18 er_16 ez0_13 er_10 ex5_8 eu_5 er_6 er_3 ex1_1
                              exact ((if_pos c_83).trans ((if_neg c_219).trans ((if_neg c_220).trans ((if_neg c_238).trans ((if_pos c_263).trans (rfl)))))).symm
                            exact kk_ev hx hb hr hlocks hK hq [2, 3, 0, 1] (u_5.1, u_5.2.1, u_5.2.2.1, u_5.2.2.2.1, u_5.2.2.2.2.1, M_runTurns, M_runFirst, M_runLast, fNw_276, u_5.2.2.2.2.2.1, u_5.2.2.2.2.2.2) rfl (by decide) dX8_tickOnce_764 hf
                          · skip
                            refine lv_if_eq (tgt := 745) hx hb dX8_tickOnce_738 (by decide) (fun c_271 => ?_) (fun c_271 => ?_)
                            · skip
                              refine lv_aload_n hx hb dX8_tickOnce_745 rfl (lv_at hl 8 rfl) ?_
                              refine kk_get (ci := 8) (v := .ref aNw) (C := RX8) (T := TX8) (N := 22) hx hb hts iX8 hown hK hq 2 rfl rfl 0 (by decide) lk0_ rfl dX8_tickOnce_746 ?_
                              refine lv_iconst (v := 3) hx hb dX8_tickOnce_749 (by decide) ?_
                              refine kk_lald hx hb hK hq 3 0 rfl rfl 3 rfl (by decide) (by decide) dX8_tickOnce_750 ?_
                              refine W.eq (g2 := F0 m 751 ls [.long (z_43.2 3), .int 3, .ref aNw]) (by subst efNw_267 efNw_214 efNw_213 efNw_79 efNw_77 efNw_75 efNw_70 efNw_65 efNw_57 efNw_48; rfl) ?_
                              refine lv_lconst (v := 1) hx hb dX8_tickOnce_751 (by decide) ?_
                              refine lv_ladd hx hb dX8_tickOnce_752 ?_
                              exact J_273 ((z_43.2 3) + 1) _ _ _ ⟨(if_pos c_271).symm, lv_sub hl [0, 1, 2, 3, 4, 5, 6, 7, 8] rfl, hq⟩
                            · skip
                              refine lv_lconst (v := 0) hx hb dX8_tickOnce_741 (by decide) ?_
                              refine lv_goto (tgt := 753) hx hb dX8_tickOnce_742 (by decide) ?_
                              exact J_273 0 _ _ _ ⟨(if_neg c_271).symm, lv_sub hl [0, 1, 2, 3, 4, 5, 6, 7, 8] rfl, hq⟩
                        · skip
                          refine kk_lc_eq (tgt := 724) hx hb dX8_tickOnce_698 dX8_tickOnce_699 (by decide) (fun c_268 => ?_) (fun c_268 => ?_)
                          · skip
                            refine lv_iconst (v := 1) hx hb dX8_tickOnce_724 (by decide) ?_
                            refine lv_goto (tgt := 729) hx hb dX8_tickOnce_725 (by decide) ?_
                            exact J_270 1 _ _ _ ⟨(if_pos c_268).symm, lv_sub hl [0, 1, 2, 3, 4, 5, 6, 7] rfl, hq⟩
                          · skip
                            refine lv_lload_n hx hb dX8_tickOnce_702 rfl (lv_at hl 6 rfl) ?_
                            refine lv_lconst (v := 0) hx hb dX8_tickOnce_703 (by decide) ?_
                            refine kk_lc_eq (tgt := 728) hx hb dX8_tickOnce_704 dX8_tickOnce_705 (by decide) (fun c_277 => ?_) (fun c_277 => ?_)
                            · skip
                              refine lv_iconst (v := 0) hx hb dX8_tickOnce_728 (by decide) ?_
                              exact J_270 0 _ _ _ ⟨((if_neg c_268).trans (if_pos c_277)).symm, lv_sub hl [0, 1, 2, 3, 4, 5, 6, 7] rfl, hq⟩
                            · skip
                              refine lv_lload_n hx hb dX8_tickOnce_708 rfl (lv_at hl 6 rfl) ?_
                              refine kk_Si (As := [.long x1_1]) (rest := []) (wr := [(aVs, .inl (cVs, 64, .inr (.inl u_5.2.2.2.2.2.1))), (aSg, .inl (cSg, 128, .inl u_5.2.2.2.2.2.2)), (aM, .inr (8, [.ref aNw, .ref rM_kept, .ref rM_isKept, .ref rM_refused, .int u_5.1, .int u_5.2.1, .ref aVs, .int u_5.2.2.1, .ref aSg, .int u_5.2.2.2.1, .long u_5.2.2.2.2.1, .int M_way, .int M_wish, .long M_moreTick, .long M_moreForce, .int M_runTurns, .long M_runFirst, .long M_runLast, .ref rM_was, .long M_peak, .long M_beside, .int M_besideAt])), (aNw, .inl (cNw, 139, .inr (.inl fNw_267)))]) ⟨hx, hb, hml, hown, hts⟩ (c_X8_signOf l G x1_1) (kk_cwS 1 hts hsb wd_568 wd_569 wd_5 wd_570 rfl rfl hd_X8_signOf ⟨Nat.le_of_ble_eq_true rfl, Nat.le_of_ble_eq_true rfl⟩) hA hK hq [] [0, 1, 2, 3] [] rfl rfl rfl (by decide) (by decide) (by decide) rfl hl.1 rfl (Nat.le_of_ble_eq_true rfl) dX8_tickOnce_709 ⟨Nat.zero_le _, Nat.zero_le _⟩ (fun r_279 u_278 H locs h_280 hq => ?_)
                              obtain rfl := h_280
                              have hq : kAt G A s [(aVs, .inl (cVs, 64, .inr (.inl u_5.2.2.2.2.2.1))), (aSg, .inl (cSg, 128, .inl u_5.2.2.2.2.2.2)), (aM, .inr (8, [.ref aNw, .ref rM_kept, .ref rM_isKept, .ref rM_refused, .int u_5.1, .int u_5.2.1, .ref aVs, .int u_5.2.2.1, .ref aSg, .int u_5.2.2.2.1, .long u_5.2.2.2.2.1, .int M_way, .int M_wish, .long M_moreTick, .long M_moreForce, .int M_runTurns, .long M_runFirst, .long M_runLast, .ref rM_was, .long M_peak, .long M_beside, .int M_besideAt])), (aNw, .inl (cNw, 139, .inr (.inl fNw_267)))] H locs := hq
                              refine lv_aload_n hx hb dX8_tickOnce_712 rfl (lv_at hl 7 rfl) ?_
                              refine kk_get (ci := 8) (v := .ref aNw) (C := RX8) (T := TX8) (N := 22) hx hb hts iX8 hown hK hq 2 rfl rfl 0 (by decide) lk0_ rfl dX8_tickOnce_713 ?_
                              refine lv_iconst (v := 0) hx hb dX8_tickOnce_716 (by decide) ?_
                              refine kk_lald hx hb hK hq 3 0 rfl rfl 0 rfl (by decide) (by decide) dX8_tickOnce_717 ?_
                              refine W.eq (g2 := F0 m 718 ls [.long w_76, .int (fX8_signOf x1_1)]) (by subst efNw_267 efNw_214 efNw_213 efNw_79 efNw_77; rfl) ?_
                              refine kk_Si (As := [.long w_76]) (rest := [.int (fX8_signOf x1_1)]) (wr := [(aVs, .inl (cVs, 64, .inr (.inl u_5.2.2.2.2.2.1))), (aSg, .inl (cSg, 128, .inl u_5.2.2.2.2.2.2)), (aM, .inr (8, [.ref aNw, .ref rM_kept, .ref rM_isKept, .ref rM_refused, .int u_5.1, .int u_5.2.1, .ref aVs, .int u_5.2.2.1, .ref aSg, .int u_5.2.2.2.1, .long u_5.2.2.2.2.1, .int M_way, .int M_wish, .long M_moreTick, .long M_moreForce, .int M_runTurns, .long M_runFirst, .long M_runLast, .ref rM_was, .long M_peak, .long M_beside, .int M_besideAt])), (aNw, .inl (cNw, 139, .inr (.inl fNw_267)))]) ⟨hx, hb, hml, hown, hts⟩ (c_X8_signOf l G w_76) (kk_cwS 1 hts hsb wd_568 wd_569 wd_5 wd_570 rfl rfl hd_X8_signOf ⟨Nat.le_of_ble_eq_true rfl, Nat.le_of_ble_eq_true rfl⟩) hA hK hq [] [0, 1, 2, 3] [] rfl rfl rfl (by decide) (by decide) (by decide) rfl hl.1 rfl (Nat.le_of_ble_eq_true rfl) dX8_tickOnce_718 ⟨Nat.zero_le _, Nat.zero_le _⟩ (fun r_282 u_281 H locs h_283 hq => ?_)
                              obtain rfl := h_283
                              have hq : kAt G A s [(aVs, .inl (cVs, 64, .inr (.inl u_5.2.2.2.2.2.1))), (aSg, .inl (cSg, 128, .inl u_5.2.2.2.2.2.2)), (aM, .inr (8, [.ref aNw, .ref rM_kept, .ref rM_isKept, .ref rM_refused, .int u_5.1, .int u_5.2.1, .ref aVs, .int u_5.2.2.1, .ref aSg, .int u_5.2.2.2.1, .long u_5.2.2.2.2.1, .int M_way, .int M_wish, .long M_moreTick, .long M_moreForce, .int M_runTurns, .long M_runFirst, .long M_runLast, .ref rM_was, .long M_peak, .long M_beside, .int M_besideAt])), (aNw, .inl (cNw, 139, .inr (.inl fNw_267)))] H locs := hq
                              refine lv_icmp_eq (tgt := 728) hx hb dX8_tickOnce_721 (by decide) (fun c_284 => ?_) (fun c_284 => ?_)
                              · skip
                                refine lv_iconst (v := 0) hx hb dX8_tickOnce_728 (by decide) ?_
                                exact J_270 0 _ _ _ ⟨((if_neg c_268).trans ((if_neg c_277).trans (if_pos c_284))).symm, lv_sub hl [0, 1, 2, 3, 4, 5, 6, 7] rfl, hq⟩
                              · skip
                                refine lv_iconst (v := 1) hx hb dX8_tickOnce_724 (by decide) ?_
                                refine lv_goto (tgt := 729) hx hb dX8_tickOnce_725 (by decide) ?_
                                exact J_270 1 _ _ _ ⟨((if_neg c_268).trans ((if_neg c_277).trans (if_neg c_284))).symm, lv_sub hl [0, 1, 2, 3, 4, 5, 6, 7] rfl, hq⟩
                      · skip
                        refine lv_aload_n hx hb dX8_tickOnce_670 rfl (lv_at hl 7 rfl) ?_
                        refine kk_Vv (As := []) (rest := []) (wr := [(aVs, .inl (cVs, 64, .inr (.inl u_5.2.2.2.2.2.1))), (aSg, .inl (cSg, 128, .inl u_5.2.2.2.2.2.2))]) ⟨hx, hb, hml, hown, hts⟩ (c_X8_turned l G aM aNw rM_kept rM_isKept rM_refused aVs aSg rM_was cNw u_5.1 u_5.2.1 u_5.2.2.1 u_5.2.2.2.1 u_5.2.2.2.2.1 M_way M_wish M_moreTick M_moreForce M_runTurns M_runFirst M_runLast M_peak M_beside M_besideAt fNw_214 (AG_6 wn (by assumption))) (kk_cwV 0 hts hsb wd_560 wd_561 wd_562 wd_5 wd_563 rfl rfl hd_X8_turned ⟨Nat.le_of_ble_eq_true rfl, Nat.le_of_ble_eq_true rfl⟩) hA hK hq [2, 3] [0, 1] [0] rfl rfl rfl (by decide) (by decide) (by decide) 0 8 rfl rfl rfl rfl hl.1 rfl (Nat.le_of_ble_eq_true rfl) dX8_tickOnce_671 ⟨Nat.zero_le _, Nat.zero_le _⟩ (fun u_285 H locs h_287 hq => ?_)
                        have eu_285 := h_287
                        have hq : kAt G A s [(aVs, .inl (cVs, 64, .inr (.inl u_5.2.2.2.2.2.1))), (aSg, .inl (cSg, 128, .inl u_5.2.2.2.2.2.2)), (aM, .inr (8, [.ref aNw, .ref rM_kept, .ref rM_isKept, .ref rM_refused, .int u_5.1, .int u_5.2.1, .ref aVs, .int u_5.2.2.1, .ref aSg, .int u_5.2.2.2.1, .long u_5.2.2.2.2.1, .int M_way, .int M_wish, .long M_moreTick, .long M_moreForce, .int u_285.1, .long u_285.2.1, .long u_285.2.2.1, .ref rM_was, .long M_peak, .long M_beside, .int M_besideAt])), (aNw, .inl (cNw, 139, .inr (.inl u_285.2.2.2)))] H locs := hq
                        refine lv_aload_n hx hb dX8_tickOnce_674 rfl (lv_at hl 7 rfl) ?_
                        refine kk_get (ci := 8) (v := .ref aNw) (C := RX8) (T := TX8) (N := 22) hx hb hts iX8 hown hK hq 2 rfl rfl 0 (by decide) lk0_ rfl dX8_tickOnce_675 ?_
                        refine lv_bipush (v := 12) hx hb dX8_tickOnce_678 (by decide) ?_
                        refine lv_aload_n hx hb dX8_tickOnce_680 rfl (lv_at hl 7 rfl) ?_
                        refine kk_get (ci := 8) (v := .ref aNw) (C := RX8) (T := TX8) (N := 22) hx hb hts iX8 hown hK hq 2 rfl rfl 0 (by decide) lk0_ rfl dX8_tickOnce_681 ?_
                        refine lv_iconst (v := 1) hx hb dX8_tickOnce_684 (by decide) ?_
                        refine kk_lald hx hb hK hq 3 0 rfl rfl 1 rfl (by decide) (by decide) dX8_tickOnce_685 ?_
                        refine kk_Si (As := [.long (u_285.2.2.2 1)]) (rest := [.int 12, .ref aNw]) (wr := [(aVs, .inl (cVs, 64, .inr (.inl u_5.2.2.2.2.2.1))), (aSg, .inl (cSg, 128, .inl u_5.2.2.2.2.2.2)), (aM, .inr (8, [.ref aNw, .ref rM_kept, .ref rM_isKept, .ref rM_refused, .int u_5.1, .int u_5.2.1, .ref aVs, .int u_5.2.2.1, .ref aSg, .int u_5.2.2.2.1, .long u_5.2.2.2.2.1, .int M_way, .int M_wish, .long M_moreTick, .long M_moreForce, .int u_285.1, .long u_285.2.1, .long u_285.2.2.1, .ref rM_was, .long M_peak, .long M_beside, .int M_besideAt])), (aNw, .inl (cNw, 139, .inr (.inl u_285.2.2.2)))]) ⟨hx, hb, hml, hown, hts⟩ (c_X8_signOf l G (u_285.2.2.2 1)) (kk_cwS 1 hts hsb wd_568 wd_569 wd_5 wd_570 rfl rfl hd_X8_signOf ⟨Nat.le_of_ble_eq_true rfl, Nat.le_of_ble_eq_true rfl⟩) hA hK hq [] [0, 1, 2, 3] [] rfl rfl rfl (by decide) (by decide) (by decide) rfl hl.1 rfl (Nat.le_of_ble_eq_true rfl) dX8_tickOnce_686 ⟨Nat.zero_le _, Nat.zero_le _⟩ (fun r_289 u_288 H locs h_290 hq => ?_)
                        have er_289 := h_290
                        have hq : kAt G A s [(aVs, .inl (cVs, 64, .inr (.inl u_5.2.2.2.2.2.1))), (aSg, .inl (cSg, 128, .inl u_5.2.2.2.2.2.2)), (aM, .inr (8, [.ref aNw, .ref rM_kept, .ref rM_isKept, .ref rM_refused, .int u_5.1, .int u_5.2.1, .ref aVs, .int u_5.2.2.1, .ref aSg, .int u_5.2.2.2.1, .long u_5.2.2.2.2.1, .int M_way, .int M_wish, .long M_moreTick, .long M_moreForce, .int u_285.1, .long u_285.2.1, .long u_285.2.2.1, .ref rM_was, .long M_peak, .long M_beside, .int M_besideAt])), (aNw, .inl (cNw, 139, .inr (.inl u_285.2.2.2)))] H locs := hq
                        refine lv_i2l hx hb dX8_tickOnce_689 rfl ?_
                        refine kk_last (ws' := [(aVs, .inl (cVs, 64, .inr (.inl u_5.2.2.2.2.2.1))), (aSg, .inl (cSg, 128, .inl u_5.2.2.2.2.2.2)), (aM, .inr (8, [.ref aNw, .ref rM_kept, .ref rM_isKept, .ref rM_refused, .int u_5.1, .int u_5.2.1, .ref aVs, .int u_5.2.2.1, .ref aSg, .int u_5.2.2.2.1, .long u_5.2.2.2.2.1, .int M_way, .int M_wish, .long M_moreTick, .long M_moreForce, .int u_285.1, .long u_285.2.1, .long u_285.2.2.1, .ref rM_was, .long M_peak, .long M_beside, .int M_besideAt])), (aNw, .inl (cNw, 139, .inr (.inl (vp_updL u_285.2.2.2 12 r_289.toInt64))))]) hx hb hK hq 3 0 rfl rfl 12 rfl (by decide) (by decide) dX8_tickOnce_690 rfl (fun H locs hq => ?_)
                        obtain ⟨fNw_291, efNw_291⟩ : ∃ z : Nat → Int64, z = vp_updL u_285.2.2.2 12 r_289.toInt64 := ⟨_, rfl⟩
                        rw [← efNw_291] at hq
                        refine lv_aload_n hx hb dX8_tickOnce_691 rfl (lv_at hl 7 rfl) ?_
                        refine kk_get (ci := 8) (v := .ref aNw) (C := RX8) (T := TX8) (N := 22) hx hb hts iX8 hown hK hq 2 rfl rfl 0 (by decide) lk0_ rfl dX8_tickOnce_692 ?_
                        refine lv_iconst (v := 0) hx hb dX8_tickOnce_695 (by decide) ?_
                        refine kk_lald hx hb hK hq 3 0 rfl rfl 0 rfl (by decide) (by decide) dX8_tickOnce_696 ?_
                        refine W.eq (g2 := F0 m 697 ls [.long (u_285.2.2.2 0)]) (by subst efNw_291; rfl) ?_
                        refine lv_lconst (v := 0) hx hb dX8_tickOnce_697 (by decide) ?_
                        refine kk_join1 (fun (z0_293 : Int32) (H : Heap) (locs : List Loc) (ls : Array Slot) => z0_293 = (if u_285.2.2.2 0 = 0 then 1 else if x1_1 = 0 then 0 else if fX8_signOf x1_1 = fX8_signOf (u_285.2.2.2 0) then 0 else 1) ∧ lv_has ls 16 [(13, .long x13_218), (11, .long x11_52), (9, .long r_21), (7, .long r_16), (5, .long z0_13), (3, .long r_3), (1, .long x1_1), (0, .ref aM)] ∧ kAt G A s [(aVs, .inl (cVs, 64, .inr (.inl u_5.2.2.2.2.2.1))), (aSg, .inl (cSg, 128, .inl u_5.2.2.2.2.2.2)), (aM, .inr (8, [.ref aNw, .ref rM_kept, .ref rM_isKept, .ref rM_refused, .int u_5.1, .int u_5.2.1, .ref aVs, .int u_5.2.2.1, .ref aSg, .int u_5.2.2.2.1, .long u_5.2.2.2.2.1, .int M_way, .int M_wish, .long M_moreTick, .long M_moreForce, .int u_285.1, .long u_285.2.1, .long u_285.2.2.1, .ref rM_was, .long M_peak, .long M_beside, .int M_besideAt])), (aNw, .inl (cNw, 139, .inr (.inl fNw_291)))] H locs) 729 (fun z0_293 => [.int z0_293]) (fun z0_293 H locs ls hv => ?_) (fun J_294 => ?_)
                        · skip
                          obtain ⟨ez0_293, hl, hq⟩ := hv
                          refine lv_istore (lv' := [(15, .int z0_293), (13, .long x13_218), (11, .long x11_52), (9, .long r_21), (7, .long r_16), (5, .long z0_13), (3, .long r_3), (1, .long x1_1), (0, .ref aM)]) hx hb dX8_tickOnce_729 hl (by decide) rfl (fun ls hl => ?_)
                          refine lv_aload_n hx hb dX8_tickOnce_731 rfl (lv_at hl 8 rfl) ?_
                          refine kk_get (ci := 8) (v := .ref aNw) (C := RX8) (T := TX8) (N := 22) hx hb hts iX8 hown hK hq 2 rfl rfl 0 (by decide) lk0_ rfl dX8_tickOnce_732 ?_
                          refine lv_iconst (v := 3) hx hb dX8_tickOnce_735 (by decide) ?_
                          refine lv_iload hx hb dX8_tickOnce_736 (lv_at hl 0 rfl) ?_
                          refine kk_join1 (fun (z0_296 : Int64) (H : Heap) (locs : List Loc) (ls : Array Slot) => z0_296 = (if z0_293 = 0 then (u_285.2.2.2 3) + 1 else 0) ∧ lv_has ls 16 [(15, .int z0_293), (13, .long x13_218), (11, .long x11_52), (9, .long r_21), (7, .long r_16), (5, .long z0_13), (3, .long r_3), (1, .long x1_1), (0, .ref aM)] ∧ kAt G A s [(aVs, .inl (cVs, 64, .inr (.inl u_5.2.2.2.2.2.1))), (aSg, .inl (cSg, 128, .inl u_5.2.2.2.2.2.2)), (aM, .inr (8, [.ref aNw, .ref rM_kept, .ref rM_isKept, .ref rM_refused, .int u_5.1, .int u_5.2.1, .ref aVs, .int u_5.2.2.1, .ref aSg, .int u_5.2.2.2.1, .long u_5.2.2.2.2.1, .int M_way, .int M_wish, .long M_moreTick, .long M_moreForce, .int u_285.1, .long u_285.2.1, .long u_285.2.2.1, .ref rM_was, .long M_peak, .long M_beside, .int M_besideAt])), (aNw, .inl (cNw, 139, .inr (.inl fNw_291)))] H locs) 753 (fun z0_296 => [.long z0_296, .int 3, .ref aNw]) (fun z0_296 H locs ls hv => ?_) (fun J_297 => ?_)
                          · skip
                            obtain ⟨ez0_296, hl, hq⟩ := hv
                            refine kk_last (ws' := [(aVs, .inl (cVs, 64, .inr (.inl u_5.2.2.2.2.2.1))), (aSg, .inl (cSg, 128, .inl u_5.2.2.2.2.2.2)), (aM, .inr (8, [.ref aNw, .ref rM_kept, .ref rM_isKept, .ref rM_refused, .int u_5.1, .int u_5.2.1, .ref aVs, .int u_5.2.2.1, .ref aSg, .int u_5.2.2.2.1, .long u_5.2.2.2.2.1, .int M_way, .int M_wish, .long M_moreTick, .long M_moreForce, .int u_285.1, .long u_285.2.1, .long u_285.2.2.1, .ref rM_was, .long M_peak, .long M_beside, .int M_besideAt])), (aNw, .inl (cNw, 139, .inr (.inl (vp_updL fNw_291 3 z0_296))))]) hx hb hK hq 3 0 rfl rfl 3 rfl (by decide) (by decide) dX8_tickOnce_753 rfl (fun H locs hq => ?_)
                            obtain ⟨fNw_298, efNw_298⟩ : ∃ z : Nat → Int64, z = vp_updL fNw_291 3 z0_296 := ⟨_, rfl⟩
                            rw [← efNw_298] at hq
                            refine lv_aload_n hx hb dX8_tickOnce_754 rfl (lv_at hl 8 rfl) ?_
                            refine kk_get (ci := 8) (v := .ref aNw) (C := RX8) (T := TX8) (N := 22) hx hb hts iX8 hown hK hq 2 rfl rfl 0 (by decide) lk0_ rfl dX8_tickOnce_755 ?_
                            refine lv_iconst (v := 5) hx hb dX8_tickOnce_758 (by decide) ?_
                            refine lv_dup2_11 hx hb dX8_tickOnce_759 rfl rfl ?_
                            refine kk_lald hx hb hK hq 3 0 rfl rfl 5 rfl (by decide) (by decide) dX8_tickOnce_760 ?_
                            refine W.eq (g2 := F0 m 761 ls [.long (u_285.2.2.2 5), .int 5, .ref aNw]) (by subst efNw_298 efNw_291; rfl) ?_
                            refine lv_lconst (v := 1) hx hb dX8_tickOnce_761 (by decide) ?_
                            refine lv_ladd hx hb dX8_tickOnce_762 ?_
                            refine lv_topl (fun w_299 ew_299 => ?_)
                            refine kk_last (ws' := [(aVs, .inl (cVs, 64, .inr (.inl u_5.2.2.2.2.2.1))), (aSg, .inl (cSg, 128, .inl u_5.2.2.2.2.2.2)), (aM, .inr (8, [.ref aNw, .ref rM_kept, .ref rM_isKept, .ref rM_refused, .int u_5.1, .int u_5.2.1, .ref aVs, .int u_5.2.2.1, .ref aSg, .int u_5.2.2.2.1, .long u_5.2.2.2.2.1, .int M_way, .int M_wish, .long M_moreTick, .long M_moreForce, .int u_285.1, .long u_285.2.1, .long u_285.2.2.1, .ref rM_was, .long M_peak, .long M_beside, .int M_besideAt])), (aNw, .inl (cNw, 139, .inr (.inl (vp_updL fNw_298 5 w_299))))]) hx hb hK hq 3 0 rfl rfl 5 rfl (by decide) (by decide) dX8_tickOnce_763 rfl (fun H locs hq => ?_)
                            obtain ⟨fNw_300, efNw_300⟩ : ∃ z : Nat → Int64, z = vp_updL fNw_298 5 w_299 := ⟨_, rfl⟩
                            rw [← efNw_300] at hq
                            have hf : ((u_5.1, u_5.2.1, u_5.2.2.1, u_5.2.2.2.1, u_5.2.2.2.2.1, u_285.1, u_285.2.1, u_285.2.2.1, fNw_300, u_5.2.2.2.2.2.1, u_5.2.2.2.2.2.2) : Int32 × Int32 × Int32 × Int32 × Int64 × Int32 × Int64 × Int64 × (Nat → Int64) × (Nat → Int64) × (Nat → Int32)) = fX8_tickOnce M_at M_fault M_valueMany M_signMany M_tells M_way M_wish M_moreTick M_moreForce M_runTurns M_runFirst M_runLast fNw fVs fSg := by
                              clear hq hl
                              subst efNw_300 ew_299 efNw_298 ez0_296 ez0_293 efNw_291 er_289 eu_285 er_261 ex13_218 er_216 efNw_214 efNw_213 ez0_211 er_81 efNw_79 ew_78 efNw_77 ew_76 efNw_75 ew_74 er_72 efNw_70 ew_69 er_67 efNw_65 ew_64 er_62 er_59 efNw_57 ew_56 er_54 ex11_52 er_50 efNw_48 ew_47 ez0_45 ez_43 efNw_36 ez0_34 efNw_32 ew_31 er_29 efNw_27 ew_26 er_24 er_21 efNw_19 ew_18 er_16 ez0_13 er_10 ex5_8 eu_5 er_6 er_3 ex1_1
                              exact ((if_pos c_83).trans ((if_neg c_219).trans ((if_neg c_220).trans ((if_neg c_238).trans ((if_neg c_263).trans (rfl)))))).symm
                            exact kk_ev hx hb hr hlocks hK hq [2, 3, 0, 1] (u_5.1, u_5.2.1, u_5.2.2.1, u_5.2.2.2.1, u_5.2.2.2.2.1, u_285.1, u_285.2.1, u_285.2.2.1, fNw_300, u_5.2.2.2.2.2.1, u_5.2.2.2.2.2.2) rfl (by decide) dX8_tickOnce_764 hf
                          · skip
                            refine lv_if_eq (tgt := 745) hx hb dX8_tickOnce_738 (by decide) (fun c_295 => ?_) (fun c_295 => ?_)
                            · skip
                              refine lv_aload_n hx hb dX8_tickOnce_745 rfl (lv_at hl 8 rfl) ?_
                              refine kk_get (ci := 8) (v := .ref aNw) (C := RX8) (T := TX8) (N := 22) hx hb hts iX8 hown hK hq 2 rfl rfl 0 (by decide) lk0_ rfl dX8_tickOnce_746 ?_
                              refine lv_iconst (v := 3) hx hb dX8_tickOnce_749 (by decide) ?_
                              refine kk_lald hx hb hK hq 3 0 rfl rfl 3 rfl (by decide) (by decide) dX8_tickOnce_750 ?_
                              refine W.eq (g2 := F0 m 751 ls [.long (u_285.2.2.2 3), .int 3, .ref aNw]) (by subst efNw_291; rfl) ?_
                              refine lv_lconst (v := 1) hx hb dX8_tickOnce_751 (by decide) ?_
                              refine lv_ladd hx hb dX8_tickOnce_752 ?_
                              exact J_297 ((u_285.2.2.2 3) + 1) _ _ _ ⟨(if_pos c_295).symm, lv_sub hl [0, 1, 2, 3, 4, 5, 6, 7, 8] rfl, hq⟩
                            · skip
                              refine lv_lconst (v := 0) hx hb dX8_tickOnce_741 (by decide) ?_
                              refine lv_goto (tgt := 753) hx hb dX8_tickOnce_742 (by decide) ?_
                              exact J_297 0 _ _ _ ⟨(if_neg c_295).symm, lv_sub hl [0, 1, 2, 3, 4, 5, 6, 7, 8] rfl, hq⟩
                        · skip
                          refine kk_lc_eq (tgt := 724) hx hb dX8_tickOnce_698 dX8_tickOnce_699 (by decide) (fun c_292 => ?_) (fun c_292 => ?_)
                          · skip
                            refine lv_iconst (v := 1) hx hb dX8_tickOnce_724 (by decide) ?_
                            refine lv_goto (tgt := 729) hx hb dX8_tickOnce_725 (by decide) ?_
                            exact J_294 1 _ _ _ ⟨(if_pos c_292).symm, lv_sub hl [0, 1, 2, 3, 4, 5, 6, 7] rfl, hq⟩
                          · skip
                            refine lv_lload_n hx hb dX8_tickOnce_702 rfl (lv_at hl 6 rfl) ?_
                            refine lv_lconst (v := 0) hx hb dX8_tickOnce_703 (by decide) ?_
                            refine kk_lc_eq (tgt := 728) hx hb dX8_tickOnce_704 dX8_tickOnce_705 (by decide) (fun c_301 => ?_) (fun c_301 => ?_)
                            · skip
                              refine lv_iconst (v := 0) hx hb dX8_tickOnce_728 (by decide) ?_
                              exact J_294 0 _ _ _ ⟨((if_neg c_292).trans (if_pos c_301)).symm, lv_sub hl [0, 1, 2, 3, 4, 5, 6, 7] rfl, hq⟩
                            · skip
                              refine lv_lload_n hx hb dX8_tickOnce_708 rfl (lv_at hl 6 rfl) ?_
                              refine kk_Si (As := [.long x1_1]) (rest := []) (wr := [(aVs, .inl (cVs, 64, .inr (.inl u_5.2.2.2.2.2.1))), (aSg, .inl (cSg, 128, .inl u_5.2.2.2.2.2.2)), (aM, .inr (8, [.ref aNw, .ref rM_kept, .ref rM_isKept, .ref rM_refused, .int u_5.1, .int u_5.2.1, .ref aVs, .int u_5.2.2.1, .ref aSg, .int u_5.2.2.2.1, .long u_5.2.2.2.2.1, .int M_way, .int M_wish, .long M_moreTick, .long M_moreForce, .int u_285.1, .long u_285.2.1, .long u_285.2.2.1, .ref rM_was, .long M_peak, .long M_beside, .int M_besideAt])), (aNw, .inl (cNw, 139, .inr (.inl fNw_291)))]) ⟨hx, hb, hml, hown, hts⟩ (c_X8_signOf l G x1_1) (kk_cwS 1 hts hsb wd_568 wd_569 wd_5 wd_570 rfl rfl hd_X8_signOf ⟨Nat.le_of_ble_eq_true rfl, Nat.le_of_ble_eq_true rfl⟩) hA hK hq [] [0, 1, 2, 3] [] rfl rfl rfl (by decide) (by decide) (by decide) rfl hl.1 rfl (Nat.le_of_ble_eq_true rfl) dX8_tickOnce_709 ⟨Nat.zero_le _, Nat.zero_le _⟩ (fun r_303 u_302 H locs h_304 hq => ?_)
                              obtain rfl := h_304
                              have hq : kAt G A s [(aVs, .inl (cVs, 64, .inr (.inl u_5.2.2.2.2.2.1))), (aSg, .inl (cSg, 128, .inl u_5.2.2.2.2.2.2)), (aM, .inr (8, [.ref aNw, .ref rM_kept, .ref rM_isKept, .ref rM_refused, .int u_5.1, .int u_5.2.1, .ref aVs, .int u_5.2.2.1, .ref aSg, .int u_5.2.2.2.1, .long u_5.2.2.2.2.1, .int M_way, .int M_wish, .long M_moreTick, .long M_moreForce, .int u_285.1, .long u_285.2.1, .long u_285.2.2.1, .ref rM_was, .long M_peak, .long M_beside, .int M_besideAt])), (aNw, .inl (cNw, 139, .inr (.inl fNw_291)))] H locs := hq
                              refine lv_aload_n hx hb dX8_tickOnce_712 rfl (lv_at hl 7 rfl) ?_
                              refine kk_get (ci := 8) (v := .ref aNw) (C := RX8) (T := TX8) (N := 22) hx hb hts iX8 hown hK hq 2 rfl rfl 0 (by decide) lk0_ rfl dX8_tickOnce_713 ?_
                              refine lv_iconst (v := 0) hx hb dX8_tickOnce_716 (by decide) ?_
                              refine kk_lald hx hb hK hq 3 0 rfl rfl 0 rfl (by decide) (by decide) dX8_tickOnce_717 ?_
                              refine W.eq (g2 := F0 m 718 ls [.long (u_285.2.2.2 0), .int (fX8_signOf x1_1)]) (by subst efNw_291; rfl) ?_
                              refine kk_Si (As := [.long (u_285.2.2.2 0)]) (rest := [.int (fX8_signOf x1_1)]) (wr := [(aVs, .inl (cVs, 64, .inr (.inl u_5.2.2.2.2.2.1))), (aSg, .inl (cSg, 128, .inl u_5.2.2.2.2.2.2)), (aM, .inr (8, [.ref aNw, .ref rM_kept, .ref rM_isKept, .ref rM_refused, .int u_5.1, .int u_5.2.1, .ref aVs, .int u_5.2.2.1, .ref aSg, .int u_5.2.2.2.1, .long u_5.2.2.2.2.1, .int M_way, .int M_wish, .long M_moreTick, .long M_moreForce, .int u_285.1, .long u_285.2.1, .long u_285.2.2.1, .ref rM_was, .long M_peak, .long M_beside, .int M_besideAt])), (aNw, .inl (cNw, 139, .inr (.inl fNw_291)))]) ⟨hx, hb, hml, hown, hts⟩ (c_X8_signOf l G (u_285.2.2.2 0)) (kk_cwS 1 hts hsb wd_568 wd_569 wd_5 wd_570 rfl rfl hd_X8_signOf ⟨Nat.le_of_ble_eq_true rfl, Nat.le_of_ble_eq_true rfl⟩) hA hK hq [] [0, 1, 2, 3] [] rfl rfl rfl (by decide) (by decide) (by decide) rfl hl.1 rfl (Nat.le_of_ble_eq_true rfl) dX8_tickOnce_718 ⟨Nat.zero_le _, Nat.zero_le _⟩ (fun r_306 u_305 H locs h_307 hq => ?_)
                              obtain rfl := h_307
                              have hq : kAt G A s [(aVs, .inl (cVs, 64, .inr (.inl u_5.2.2.2.2.2.1))), (aSg, .inl (cSg, 128, .inl u_5.2.2.2.2.2.2)), (aM, .inr (8, [.ref aNw, .ref rM_kept, .ref rM_isKept, .ref rM_refused, .int u_5.1, .int u_5.2.1, .ref aVs, .int u_5.2.2.1, .ref aSg, .int u_5.2.2.2.1, .long u_5.2.2.2.2.1, .int M_way, .int M_wish, .long M_moreTick, .long M_moreForce, .int u_285.1, .long u_285.2.1, .long u_285.2.2.1, .ref rM_was, .long M_peak, .long M_beside, .int M_besideAt])), (aNw, .inl (cNw, 139, .inr (.inl fNw_291)))] H locs := hq
                              refine lv_icmp_eq (tgt := 728) hx hb dX8_tickOnce_721 (by decide) (fun c_308 => ?_) (fun c_308 => ?_)
                              · skip
                                refine lv_iconst (v := 0) hx hb dX8_tickOnce_728 (by decide) ?_
                                exact J_294 0 _ _ _ ⟨((if_neg c_292).trans ((if_neg c_301).trans (if_pos c_308))).symm, lv_sub hl [0, 1, 2, 3, 4, 5, 6, 7] rfl, hq⟩
                              · skip
                                refine lv_iconst (v := 1) hx hb dX8_tickOnce_724 (by decide) ?_
                                refine lv_goto (tgt := 729) hx hb dX8_tickOnce_725 (by decide) ?_
                                exact J_294 1 _ _ _ ⟨((if_neg c_292).trans ((if_neg c_301).trans (if_neg c_308))).symm, lv_sub hl [0, 1, 2, 3, 4, 5, 6, 7] rfl, hq⟩
                · skip
                  refine lv_aload_n hx hb dX8_tickOnce_535 rfl (lv_at hl 7 rfl) ?_
                  refine kk_get (ci := 8) (v := .ref aNw) (C := RX8) (T := TX8) (N := 22) hx hb hts iX8 hown hK hq 2 rfl rfl 0 (by decide) lk0_ rfl dX8_tickOnce_536 ?_
                  refine lv_iconst (v := 0) hx hb dX8_tickOnce_539 (by decide) ?_
                  refine lv_aload_n hx hb dX8_tickOnce_540 rfl (lv_at hl 7 rfl) ?_
                  refine kk_get (ci := 8) (v := .ref aNw) (C := RX8) (T := TX8) (N := 22) hx hb hts iX8 hown hK hq 2 rfl rfl 0 (by decide) lk0_ rfl dX8_tickOnce_541 ?_
                  refine lv_iconst (v := 0) hx hb dX8_tickOnce_544 (by decide) ?_
                  refine kk_lald hx hb hK hq 3 0 rfl rfl 0 rfl (by decide) (by decide) dX8_tickOnce_545 ?_
                  refine W.eq (g2 := F0 m 546 ls [.long w_76, .int 0, .ref aNw]) (by subst efNw_214 efNw_213 efNw_79 efNw_77; rfl) ?_
                  refine lv_lconst (v := 0) hx hb dX8_tickOnce_546 (by decide) ?_
                  refine kk_join1 (fun (z0_310 : Int64) (H : Heap) (locs : List Loc) (ls : Array Slot) => z0_310 = (if 0 < w_76 then 1000000 else (-1000000)) ∧ lv_has ls 16 [(13, .long x13_218), (11, .long x11_52), (9, .long r_21), (7, .long r_16), (5, .long z0_13), (3, .long r_3), (1, .long x1_1), (0, .ref aM)] ∧ kAt G A s [(aVs, .inl (cVs, 64, .inr (.inl u_5.2.2.2.2.2.1))), (aSg, .inl (cSg, 128, .inl u_5.2.2.2.2.2.2)), (aM, .inr (8, [.ref aNw, .ref rM_kept, .ref rM_isKept, .ref rM_refused, .int u_5.1, .int u_5.2.1, .ref aVs, .int u_5.2.2.1, .ref aSg, .int u_5.2.2.2.1, .long u_5.2.2.2.2.1, .int M_way, .int M_wish, .long M_moreTick, .long M_moreForce, .int M_runTurns, .long M_runFirst, .long M_runLast, .ref rM_was, .long M_peak, .long M_beside, .int M_besideAt])), (aNw, .inl (cNw, 139, .inr (.inl fNw_214)))] H locs) 560 (fun z0_310 => [.long z0_310, .int 0, .ref aNw]) (fun z0_310 H locs ls hv => ?_) (fun J_311 => ?_)
                  · skip
                    obtain ⟨ez0_310, hl, hq⟩ := hv
                    refine kk_last (ws' := [(aVs, .inl (cVs, 64, .inr (.inl u_5.2.2.2.2.2.1))), (aSg, .inl (cSg, 128, .inl u_5.2.2.2.2.2.2)), (aM, .inr (8, [.ref aNw, .ref rM_kept, .ref rM_isKept, .ref rM_refused, .int u_5.1, .int u_5.2.1, .ref aVs, .int u_5.2.2.1, .ref aSg, .int u_5.2.2.2.1, .long u_5.2.2.2.2.1, .int M_way, .int M_wish, .long M_moreTick, .long M_moreForce, .int M_runTurns, .long M_runFirst, .long M_runLast, .ref rM_was, .long M_peak, .long M_beside, .int M_besideAt])), (aNw, .inl (cNw, 139, .inr (.inl (vp_updL fNw_214 0 z0_310))))]) hx hb hK hq 3 0 rfl rfl 0 rfl (by decide) (by decide) dX8_tickOnce_560 rfl (fun H locs hq => ?_)
                    obtain ⟨fNw_312, efNw_312⟩ : ∃ z : Nat → Int64, z = vp_updL fNw_214 0 z0_310 := ⟨_, rfl⟩
                    rw [← efNw_312] at hq
                    have agfNw_312 := AG_u efNw_312 (by assumption) (by decide)
                    refine lv_aload_n hx hb dX8_tickOnce_561 rfl (lv_at hl 7 rfl) ?_
                    refine kk_get (ci := 8) (v := .ref aNw) (C := RX8) (T := TX8) (N := 22) hx hb hts iX8 hown hK hq 2 rfl rfl 0 (by decide) lk0_ rfl dX8_tickOnce_562 ?_
                    refine lv_iconst (v := 1) hx hb dX8_tickOnce_565 (by decide) ?_
                    refine lv_lconst (v := 0) hx hb dX8_tickOnce_566 (by decide) ?_
                    refine kk_last (ws' := [(aVs, .inl (cVs, 64, .inr (.inl u_5.2.2.2.2.2.1))), (aSg, .inl (cSg, 128, .inl u_5.2.2.2.2.2.2)), (aM, .inr (8, [.ref aNw, .ref rM_kept, .ref rM_isKept, .ref rM_refused, .int u_5.1, .int u_5.2.1, .ref aVs, .int u_5.2.2.1, .ref aSg, .int u_5.2.2.2.1, .long u_5.2.2.2.2.1, .int M_way, .int M_wish, .long M_moreTick, .long M_moreForce, .int M_runTurns, .long M_runFirst, .long M_runLast, .ref rM_was, .long M_peak, .long M_beside, .int M_besideAt])), (aNw, .inl (cNw, 139, .inr (.inl (vp_updL fNw_312 1 0))))]) hx hb hK hq 3 0 rfl rfl 1 rfl (by decide) (by decide) dX8_tickOnce_567 rfl (fun H locs hq => ?_)
                    obtain ⟨fNw_313, efNw_313⟩ : ∃ z : Nat → Int64, z = vp_updL fNw_312 1 0 := ⟨_, rfl⟩
                    rw [← efNw_313] at hq
                    have agfNw_313 := AG_u efNw_313 (by assumption) (by decide)
                    refine lv_aload_n hx hb dX8_tickOnce_568 rfl (lv_at hl 7 rfl) ?_
                    refine kk_get (ci := 8) (v := .ref aNw) (C := RX8) (T := TX8) (N := 22) hx hb hts iX8 hown hK hq 2 rfl rfl 0 (by decide) lk0_ rfl dX8_tickOnce_569 ?_
                    refine lv_bipush (v := 12) hx hb dX8_tickOnce_572 (by decide) ?_
                    refine lv_lconst (v := 0) hx hb dX8_tickOnce_574 (by decide) ?_
                    refine kk_last (ws' := [(aVs, .inl (cVs, 64, .inr (.inl u_5.2.2.2.2.2.1))), (aSg, .inl (cSg, 128, .inl u_5.2.2.2.2.2.2)), (aM, .inr (8, [.ref aNw, .ref rM_kept, .ref rM_isKept, .ref rM_refused, .int u_5.1, .int u_5.2.1, .ref aVs, .int u_5.2.2.1, .ref aSg, .int u_5.2.2.2.1, .long u_5.2.2.2.2.1, .int M_way, .int M_wish, .long M_moreTick, .long M_moreForce, .int M_runTurns, .long M_runFirst, .long M_runLast, .ref rM_was, .long M_peak, .long M_beside, .int M_besideAt])), (aNw, .inl (cNw, 139, .inr (.inl (vp_updL fNw_313 12 0))))]) hx hb hK hq 3 0 rfl rfl 12 rfl (by decide) (by decide) dX8_tickOnce_575 rfl (fun H locs hq => ?_)
                    obtain ⟨fNw_314, efNw_314⟩ : ∃ z : Nat → Int64, z = vp_updL fNw_313 12 0 := ⟨_, rfl⟩
                    rw [← efNw_314] at hq
                    have agfNw_314 := AG_u efNw_314 (by assumption) (by decide)
                    refine lv_aload_n hx hb dX8_tickOnce_576 rfl (lv_at hl 7 rfl) ?_
                    refine kk_get (ci := 8) (v := .ref aNw) (C := RX8) (T := TX8) (N := 22) hx hb hts iX8 hown hK hq 2 rfl rfl 0 (by decide) lk0_ rfl dX8_tickOnce_577 ?_
                    refine lv_bipush (v := 8) hx hb dX8_tickOnce_580 (by decide) ?_
                    refine lv_dup2_11 hx hb dX8_tickOnce_582 rfl rfl ?_
                    refine kk_lald hx hb hK hq 3 0 rfl rfl 8 rfl (by decide) (by decide) dX8_tickOnce_583 ?_
                    refine W.eq (g2 := F0 m 584 ls [.long (z_43.2 8), .int 8, .ref aNw]) (by subst efNw_314 efNw_313 efNw_312 efNw_214 efNw_213 efNw_79 efNw_77 efNw_75 efNw_70 efNw_65 efNw_57 efNw_48; rfl) ?_
                    refine lv_lconst (v := 1) hx hb dX8_tickOnce_584 (by decide) ?_
                    refine lv_ladd hx hb dX8_tickOnce_585 ?_
                    refine lv_topl (fun w_315 ew_315 => ?_)
                    refine kk_last (ws' := [(aVs, .inl (cVs, 64, .inr (.inl u_5.2.2.2.2.2.1))), (aSg, .inl (cSg, 128, .inl u_5.2.2.2.2.2.2)), (aM, .inr (8, [.ref aNw, .ref rM_kept, .ref rM_isKept, .ref rM_refused, .int u_5.1, .int u_5.2.1, .ref aVs, .int u_5.2.2.1, .ref aSg, .int u_5.2.2.2.1, .long u_5.2.2.2.2.1, .int M_way, .int M_wish, .long M_moreTick, .long M_moreForce, .int M_runTurns, .long M_runFirst, .long M_runLast, .ref rM_was, .long M_peak, .long M_beside, .int M_besideAt])), (aNw, .inl (cNw, 139, .inr (.inl (vp_updL fNw_314 8 w_315))))]) hx hb hK hq 3 0 rfl rfl 8 rfl (by decide) (by decide) dX8_tickOnce_586 rfl (fun H locs hq => ?_)
                    obtain ⟨fNw_316, efNw_316⟩ : ∃ z : Nat → Int64, z = vp_updL fNw_314 8 w_315 := ⟨_, rfl⟩
                    rw [← efNw_316] at hq
                    have agfNw_316 := AG_u efNw_316 (by assumption) (by decide)
                    refine lv_aload_n hx hb dX8_tickOnce_587 rfl (lv_at hl 7 rfl) ?_
                    refine kk_get (ci := 8) (v := .ref aNw) (C := RX8) (T := TX8) (N := 22) hx hb hts iX8 hown hK hq 2 rfl rfl 0 (by decide) lk0_ rfl dX8_tickOnce_588 ?_
                    refine lv_bipush (v := 9) hx hb dX8_tickOnce_591 (by decide) ?_
                    refine lv_lload hx hb dX8_tickOnce_593 (lv_at hl 0 rfl) ?_
                    refine lv_aload_n hx hb dX8_tickOnce_595 rfl (lv_at hl 7 rfl) ?_
                    refine kk_get (ci := 8) (v := .ref aNw) (C := RX8) (T := TX8) (N := 22) hx hb hts iX8 hown hK hq 2 rfl rfl 0 (by decide) lk0_ rfl dX8_tickOnce_596 ?_
                    refine lv_bipush (v := 9) hx hb dX8_tickOnce_599 (by decide) ?_
                    refine kk_lald hx hb hK hq 3 0 rfl rfl 9 rfl (by decide) (by decide) dX8_tickOnce_601 ?_
                    refine W.eq (g2 := F0 m 602 ls [.long (z_43.2 9), .long x13_218, .int 9, .ref aNw]) (by subst efNw_316 efNw_314 efNw_313 efNw_312 efNw_214 efNw_213 efNw_79 efNw_77 efNw_75 efNw_70 efNw_65 efNw_57 efNw_48; rfl) ?_
                    refine kk_join1 (fun (z0_318 : Int64) (H : Heap) (locs : List Loc) (ls : Array Slot) => z0_318 = (if z_43.2 9 < x13_218 then x13_218 else z_43.2 9) ∧ lv_has ls 16 [(13, .long x13_218), (11, .long x11_52), (9, .long r_21), (7, .long r_16), (5, .long z0_13), (3, .long r_3), (1, .long x1_1), (0, .ref aM)] ∧ kAt G A s [(aVs, .inl (cVs, 64, .inr (.inl u_5.2.2.2.2.2.1))), (aSg, .inl (cSg, 128, .inl u_5.2.2.2.2.2.2)), (aM, .inr (8, [.ref aNw, .ref rM_kept, .ref rM_isKept, .ref rM_refused, .int u_5.1, .int u_5.2.1, .ref aVs, .int u_5.2.2.1, .ref aSg, .int u_5.2.2.2.1, .long u_5.2.2.2.2.1, .int M_way, .int M_wish, .long M_moreTick, .long M_moreForce, .int M_runTurns, .long M_runFirst, .long M_runLast, .ref rM_was, .long M_peak, .long M_beside, .int M_besideAt])), (aNw, .inl (cNw, 139, .inr (.inl fNw_316)))] H locs) 618 (fun z0_318 => [.long z0_318, .int 9, .ref aNw]) (fun z0_318 H locs ls hv => ?_) (fun J_319 => ?_)
                    · skip
                      obtain ⟨ez0_318, hl, hq⟩ := hv
                      refine kk_last (ws' := [(aVs, .inl (cVs, 64, .inr (.inl u_5.2.2.2.2.2.1))), (aSg, .inl (cSg, 128, .inl u_5.2.2.2.2.2.2)), (aM, .inr (8, [.ref aNw, .ref rM_kept, .ref rM_isKept, .ref rM_refused, .int u_5.1, .int u_5.2.1, .ref aVs, .int u_5.2.2.1, .ref aSg, .int u_5.2.2.2.1, .long u_5.2.2.2.2.1, .int M_way, .int M_wish, .long M_moreTick, .long M_moreForce, .int M_runTurns, .long M_runFirst, .long M_runLast, .ref rM_was, .long M_peak, .long M_beside, .int M_besideAt])), (aNw, .inl (cNw, 139, .inr (.inl (vp_updL fNw_316 9 z0_318))))]) hx hb hK hq 3 0 rfl rfl 9 rfl (by decide) (by decide) dX8_tickOnce_618 rfl (fun H locs hq => ?_)
                      obtain ⟨fNw_320, efNw_320⟩ : ∃ z : Nat → Int64, z = vp_updL fNw_316 9 z0_318 := ⟨_, rfl⟩
                      rw [← efNw_320] at hq
                      have agfNw_320 := AG_u efNw_320 (by assumption) (by decide)
                      refine lv_aload_n hx hb dX8_tickOnce_619 rfl (lv_at hl 7 rfl) ?_
                      refine kk_Vv (As := []) (rest := []) (wr := [(aVs, .inl (cVs, 64, .inr (.inl u_5.2.2.2.2.2.1))), (aSg, .inl (cSg, 128, .inl u_5.2.2.2.2.2.2))]) ⟨hx, hb, hml, hown, hts⟩ (c_X8_turned l G aM aNw rM_kept rM_isKept rM_refused aVs aSg rM_was cNw u_5.1 u_5.2.1 u_5.2.2.1 u_5.2.2.2.1 u_5.2.2.2.2.1 M_way M_wish M_moreTick M_moreForce M_runTurns M_runFirst M_runLast M_peak M_beside M_besideAt fNw_320 (AG_6 wn (by assumption))) (kk_cwV 0 hts hsb wd_560 wd_561 wd_562 wd_5 wd_563 rfl rfl hd_X8_turned ⟨Nat.le_of_ble_eq_true rfl, Nat.le_of_ble_eq_true rfl⟩) hA hK hq [2, 3] [0, 1] [0] rfl rfl rfl (by decide) (by decide) (by decide) 0 8 rfl rfl rfl rfl hl.1 rfl (Nat.le_of_ble_eq_true rfl) dX8_tickOnce_620 ⟨Nat.zero_le _, Nat.zero_le _⟩ (fun u_321 H locs h_323 hq => ?_)
                      have eu_321 := h_323
                      have hq : kAt G A s [(aVs, .inl (cVs, 64, .inr (.inl u_5.2.2.2.2.2.1))), (aSg, .inl (cSg, 128, .inl u_5.2.2.2.2.2.2)), (aM, .inr (8, [.ref aNw, .ref rM_kept, .ref rM_isKept, .ref rM_refused, .int u_5.1, .int u_5.2.1, .ref aVs, .int u_5.2.2.1, .ref aSg, .int u_5.2.2.2.1, .long u_5.2.2.2.2.1, .int M_way, .int M_wish, .long M_moreTick, .long M_moreForce, .int u_321.1, .long u_321.2.1, .long u_321.2.2.1, .ref rM_was, .long M_peak, .long M_beside, .int M_besideAt])), (aNw, .inl (cNw, 139, .inr (.inl u_321.2.2.2)))] H locs := hq
                      refine lv_goto (tgt := 691) hx hb dX8_tickOnce_623 (by decide) ?_
                      refine lv_aload_n hx hb dX8_tickOnce_691 rfl (lv_at hl 7 rfl) ?_
                      refine kk_get (ci := 8) (v := .ref aNw) (C := RX8) (T := TX8) (N := 22) hx hb hts iX8 hown hK hq 2 rfl rfl 0 (by decide) lk0_ rfl dX8_tickOnce_692 ?_
                      refine lv_iconst (v := 0) hx hb dX8_tickOnce_695 (by decide) ?_
                      refine kk_lald hx hb hK hq 3 0 rfl rfl 0 rfl (by decide) (by decide) dX8_tickOnce_696 ?_
                      refine lv_lconst (v := 0) hx hb dX8_tickOnce_697 (by decide) ?_
                      refine kk_join1 (fun (z0_325 : Int32) (H : Heap) (locs : List Loc) (ls : Array Slot) => z0_325 = (if u_321.2.2.2 0 = 0 then 1 else if x1_1 = 0 then 0 else if fX8_signOf x1_1 = fX8_signOf (u_321.2.2.2 0) then 0 else 1) ∧ lv_has ls 16 [(13, .long x13_218), (11, .long x11_52), (9, .long r_21), (7, .long r_16), (5, .long z0_13), (3, .long r_3), (1, .long x1_1), (0, .ref aM)] ∧ kAt G A s [(aVs, .inl (cVs, 64, .inr (.inl u_5.2.2.2.2.2.1))), (aSg, .inl (cSg, 128, .inl u_5.2.2.2.2.2.2)), (aM, .inr (8, [.ref aNw, .ref rM_kept, .ref rM_isKept, .ref rM_refused, .int u_5.1, .int u_5.2.1, .ref aVs, .int u_5.2.2.1, .ref aSg, .int u_5.2.2.2.1, .long u_5.2.2.2.2.1, .int M_way, .int M_wish, .long M_moreTick, .long M_moreForce, .int u_321.1, .long u_321.2.1, .long u_321.2.2.1, .ref rM_was, .long M_peak, .long M_beside, .int M_besideAt])), (aNw, .inl (cNw, 139, .inr (.inl u_321.2.2.2)))] H locs) 729 (fun z0_325 => [.int z0_325]) (fun z0_325 H locs ls hv => ?_) (fun J_326 => ?_)
                      · skip
                        obtain ⟨ez0_325, hl, hq⟩ := hv
                        refine lv_istore (lv' := [(15, .int z0_325), (13, .long x13_218), (11, .long x11_52), (9, .long r_21), (7, .long r_16), (5, .long z0_13), (3, .long r_3), (1, .long x1_1), (0, .ref aM)]) hx hb dX8_tickOnce_729 hl (by decide) rfl (fun ls hl => ?_)
                        refine lv_aload_n hx hb dX8_tickOnce_731 rfl (lv_at hl 8 rfl) ?_
                        refine kk_get (ci := 8) (v := .ref aNw) (C := RX8) (T := TX8) (N := 22) hx hb hts iX8 hown hK hq 2 rfl rfl 0 (by decide) lk0_ rfl dX8_tickOnce_732 ?_
                        refine lv_iconst (v := 3) hx hb dX8_tickOnce_735 (by decide) ?_
                        refine lv_iload hx hb dX8_tickOnce_736 (lv_at hl 0 rfl) ?_
                        refine kk_join1 (fun (z0_328 : Int64) (H : Heap) (locs : List Loc) (ls : Array Slot) => z0_328 = (if z0_325 = 0 then (u_321.2.2.2 3) + 1 else 0) ∧ lv_has ls 16 [(15, .int z0_325), (13, .long x13_218), (11, .long x11_52), (9, .long r_21), (7, .long r_16), (5, .long z0_13), (3, .long r_3), (1, .long x1_1), (0, .ref aM)] ∧ kAt G A s [(aVs, .inl (cVs, 64, .inr (.inl u_5.2.2.2.2.2.1))), (aSg, .inl (cSg, 128, .inl u_5.2.2.2.2.2.2)), (aM, .inr (8, [.ref aNw, .ref rM_kept, .ref rM_isKept, .ref rM_refused, .int u_5.1, .int u_5.2.1, .ref aVs, .int u_5.2.2.1, .ref aSg, .int u_5.2.2.2.1, .long u_5.2.2.2.2.1, .int M_way, .int M_wish, .long M_moreTick, .long M_moreForce, .int u_321.1, .long u_321.2.1, .long u_321.2.2.1, .ref rM_was, .long M_peak, .long M_beside, .int M_besideAt])), (aNw, .inl (cNw, 139, .inr (.inl u_321.2.2.2)))] H locs) 753 (fun z0_328 => [.long z0_328, .int 3, .ref aNw]) (fun z0_328 H locs ls hv => ?_) (fun J_329 => ?_)
                        · skip
                          obtain ⟨ez0_328, hl, hq⟩ := hv
                          refine kk_last (ws' := [(aVs, .inl (cVs, 64, .inr (.inl u_5.2.2.2.2.2.1))), (aSg, .inl (cSg, 128, .inl u_5.2.2.2.2.2.2)), (aM, .inr (8, [.ref aNw, .ref rM_kept, .ref rM_isKept, .ref rM_refused, .int u_5.1, .int u_5.2.1, .ref aVs, .int u_5.2.2.1, .ref aSg, .int u_5.2.2.2.1, .long u_5.2.2.2.2.1, .int M_way, .int M_wish, .long M_moreTick, .long M_moreForce, .int u_321.1, .long u_321.2.1, .long u_321.2.2.1, .ref rM_was, .long M_peak, .long M_beside, .int M_besideAt])), (aNw, .inl (cNw, 139, .inr (.inl (vp_updL u_321.2.2.2 3 z0_328))))]) hx hb hK hq 3 0 rfl rfl 3 rfl (by decide) (by decide) dX8_tickOnce_753 rfl (fun H locs hq => ?_)
                          obtain ⟨fNw_330, efNw_330⟩ : ∃ z : Nat → Int64, z = vp_updL u_321.2.2.2 3 z0_328 := ⟨_, rfl⟩
                          rw [← efNw_330] at hq
                          refine lv_aload_n hx hb dX8_tickOnce_754 rfl (lv_at hl 8 rfl) ?_
                          refine kk_get (ci := 8) (v := .ref aNw) (C := RX8) (T := TX8) (N := 22) hx hb hts iX8 hown hK hq 2 rfl rfl 0 (by decide) lk0_ rfl dX8_tickOnce_755 ?_
                          refine lv_iconst (v := 5) hx hb dX8_tickOnce_758 (by decide) ?_
                          refine lv_dup2_11 hx hb dX8_tickOnce_759 rfl rfl ?_
                          refine kk_lald hx hb hK hq 3 0 rfl rfl 5 rfl (by decide) (by decide) dX8_tickOnce_760 ?_
                          refine W.eq (g2 := F0 m 761 ls [.long (u_321.2.2.2 5), .int 5, .ref aNw]) (by subst efNw_330; rfl) ?_
                          refine lv_lconst (v := 1) hx hb dX8_tickOnce_761 (by decide) ?_
                          refine lv_ladd hx hb dX8_tickOnce_762 ?_
                          refine lv_topl (fun w_331 ew_331 => ?_)
                          refine kk_last (ws' := [(aVs, .inl (cVs, 64, .inr (.inl u_5.2.2.2.2.2.1))), (aSg, .inl (cSg, 128, .inl u_5.2.2.2.2.2.2)), (aM, .inr (8, [.ref aNw, .ref rM_kept, .ref rM_isKept, .ref rM_refused, .int u_5.1, .int u_5.2.1, .ref aVs, .int u_5.2.2.1, .ref aSg, .int u_5.2.2.2.1, .long u_5.2.2.2.2.1, .int M_way, .int M_wish, .long M_moreTick, .long M_moreForce, .int u_321.1, .long u_321.2.1, .long u_321.2.2.1, .ref rM_was, .long M_peak, .long M_beside, .int M_besideAt])), (aNw, .inl (cNw, 139, .inr (.inl (vp_updL fNw_330 5 w_331))))]) hx hb hK hq 3 0 rfl rfl 5 rfl (by decide) (by decide) dX8_tickOnce_763 rfl (fun H locs hq => ?_)
                          obtain ⟨fNw_332, efNw_332⟩ : ∃ z : Nat → Int64, z = vp_updL fNw_330 5 w_331 := ⟨_, rfl⟩
                          rw [← efNw_332] at hq
                          have hf : ((u_5.1, u_5.2.1, u_5.2.2.1, u_5.2.2.2.1, u_5.2.2.2.2.1, u_321.1, u_321.2.1, u_321.2.2.1, fNw_332, u_5.2.2.2.2.2.1, u_5.2.2.2.2.2.2) : Int32 × Int32 × Int32 × Int32 × Int64 × Int32 × Int64 × Int64 × (Nat → Int64) × (Nat → Int64) × (Nat → Int32)) = fX8_tickOnce M_at M_fault M_valueMany M_signMany M_tells M_way M_wish M_moreTick M_moreForce M_runTurns M_runFirst M_runLast fNw fVs fSg := by
                            clear hq hl
                            subst efNw_332 ew_331 efNw_330 ez0_328 ez0_325 eu_321 efNw_320 ez0_318 efNw_316 ew_315 efNw_314 efNw_313 efNw_312 ez0_310 ex13_218 er_216 efNw_214 efNw_213 ez0_211 er_81 efNw_79 ew_78 efNw_77 ew_76 efNw_75 ew_74 er_72 efNw_70 ew_69 er_67 efNw_65 ew_64 er_62 er_59 efNw_57 ew_56 er_54 ex11_52 er_50 efNw_48 ew_47 ez0_45 ez_43 efNw_36 ez0_34 efNw_32 ew_31 er_29 efNw_27 ew_26 er_24 er_21 efNw_19 ew_18 er_16 ez0_13 er_10 ex5_8 eu_5 er_6 er_3 ex1_1
                            exact ((if_pos c_83).trans ((if_pos c_219).trans (rfl))).symm
                          exact kk_ev hx hb hr hlocks hK hq [2, 3, 0, 1] (u_5.1, u_5.2.1, u_5.2.2.1, u_5.2.2.2.1, u_5.2.2.2.2.1, u_321.1, u_321.2.1, u_321.2.2.1, fNw_332, u_5.2.2.2.2.2.1, u_5.2.2.2.2.2.2) rfl (by decide) dX8_tickOnce_764 hf
                        · skip
                          refine lv_if_eq (tgt := 745) hx hb dX8_tickOnce_738 (by decide) (fun c_327 => ?_) (fun c_327 => ?_)
                          · skip
                            refine lv_aload_n hx hb dX8_tickOnce_745 rfl (lv_at hl 8 rfl) ?_
                            refine kk_get (ci := 8) (v := .ref aNw) (C := RX8) (T := TX8) (N := 22) hx hb hts iX8 hown hK hq 2 rfl rfl 0 (by decide) lk0_ rfl dX8_tickOnce_746 ?_
                            refine lv_iconst (v := 3) hx hb dX8_tickOnce_749 (by decide) ?_
                            refine kk_lald hx hb hK hq 3 0 rfl rfl 3 rfl (by decide) (by decide) dX8_tickOnce_750 ?_
                            refine lv_lconst (v := 1) hx hb dX8_tickOnce_751 (by decide) ?_
                            refine lv_ladd hx hb dX8_tickOnce_752 ?_
                            exact J_329 ((u_321.2.2.2 3) + 1) _ _ _ ⟨(if_pos c_327).symm, lv_sub hl [0, 1, 2, 3, 4, 5, 6, 7, 8] rfl, hq⟩
                          · skip
                            refine lv_lconst (v := 0) hx hb dX8_tickOnce_741 (by decide) ?_
                            refine lv_goto (tgt := 753) hx hb dX8_tickOnce_742 (by decide) ?_
                            exact J_329 0 _ _ _ ⟨(if_neg c_327).symm, lv_sub hl [0, 1, 2, 3, 4, 5, 6, 7, 8] rfl, hq⟩
                      · skip
                        refine kk_lc_eq (tgt := 724) hx hb dX8_tickOnce_698 dX8_tickOnce_699 (by decide) (fun c_324 => ?_) (fun c_324 => ?_)
                        · skip
                          refine lv_iconst (v := 1) hx hb dX8_tickOnce_724 (by decide) ?_
                          refine lv_goto (tgt := 729) hx hb dX8_tickOnce_725 (by decide) ?_
                          exact J_326 1 _ _ _ ⟨(if_pos c_324).symm, lv_sub hl [0, 1, 2, 3, 4, 5, 6, 7] rfl, hq⟩
                        · skip
                          refine lv_lload_n hx hb dX8_tickOnce_702 rfl (lv_at hl 6 rfl) ?_
                          refine lv_lconst (v := 0) hx hb dX8_tickOnce_703 (by decide) ?_
                          refine kk_lc_eq (tgt := 728) hx hb dX8_tickOnce_704 dX8_tickOnce_705 (by decide) (fun c_333 => ?_) (fun c_333 => ?_)
                          · skip
                            refine lv_iconst (v := 0) hx hb dX8_tickOnce_728 (by decide) ?_
                            exact J_326 0 _ _ _ ⟨((if_neg c_324).trans (if_pos c_333)).symm, lv_sub hl [0, 1, 2, 3, 4, 5, 6, 7] rfl, hq⟩
                          · skip
                            refine lv_lload_n hx hb dX8_tickOnce_708 rfl (lv_at hl 6 rfl) ?_
                            refine kk_Si (As := [.long x1_1]) (rest := []) (wr := [(aVs, .inl (cVs, 64, .inr (.inl u_5.2.2.2.2.2.1))), (aSg, .inl (cSg, 128, .inl u_5.2.2.2.2.2.2)), (aM, .inr (8, [.ref aNw, .ref rM_kept, .ref rM_isKept, .ref rM_refused, .int u_5.1, .int u_5.2.1, .ref aVs, .int u_5.2.2.1, .ref aSg, .int u_5.2.2.2.1, .long u_5.2.2.2.2.1, .int M_way, .int M_wish, .long M_moreTick, .long M_moreForce, .int u_321.1, .long u_321.2.1, .long u_321.2.2.1, .ref rM_was, .long M_peak, .long M_beside, .int M_besideAt])), (aNw, .inl (cNw, 139, .inr (.inl u_321.2.2.2)))]) ⟨hx, hb, hml, hown, hts⟩ (c_X8_signOf l G x1_1) (kk_cwS 1 hts hsb wd_568 wd_569 wd_5 wd_570 rfl rfl hd_X8_signOf ⟨Nat.le_of_ble_eq_true rfl, Nat.le_of_ble_eq_true rfl⟩) hA hK hq [] [0, 1, 2, 3] [] rfl rfl rfl (by decide) (by decide) (by decide) rfl hl.1 rfl (Nat.le_of_ble_eq_true rfl) dX8_tickOnce_709 ⟨Nat.zero_le _, Nat.zero_le _⟩ (fun r_335 u_334 H locs h_336 hq => ?_)
                            obtain rfl := h_336
                            have hq : kAt G A s [(aVs, .inl (cVs, 64, .inr (.inl u_5.2.2.2.2.2.1))), (aSg, .inl (cSg, 128, .inl u_5.2.2.2.2.2.2)), (aM, .inr (8, [.ref aNw, .ref rM_kept, .ref rM_isKept, .ref rM_refused, .int u_5.1, .int u_5.2.1, .ref aVs, .int u_5.2.2.1, .ref aSg, .int u_5.2.2.2.1, .long u_5.2.2.2.2.1, .int M_way, .int M_wish, .long M_moreTick, .long M_moreForce, .int u_321.1, .long u_321.2.1, .long u_321.2.2.1, .ref rM_was, .long M_peak, .long M_beside, .int M_besideAt])), (aNw, .inl (cNw, 139, .inr (.inl u_321.2.2.2)))] H locs := hq
                            refine lv_aload_n hx hb dX8_tickOnce_712 rfl (lv_at hl 7 rfl) ?_
                            refine kk_get (ci := 8) (v := .ref aNw) (C := RX8) (T := TX8) (N := 22) hx hb hts iX8 hown hK hq 2 rfl rfl 0 (by decide) lk0_ rfl dX8_tickOnce_713 ?_
                            refine lv_iconst (v := 0) hx hb dX8_tickOnce_716 (by decide) ?_
                            refine kk_lald hx hb hK hq 3 0 rfl rfl 0 rfl (by decide) (by decide) dX8_tickOnce_717 ?_
                            refine kk_Si (As := [.long (u_321.2.2.2 0)]) (rest := [.int (fX8_signOf x1_1)]) (wr := [(aVs, .inl (cVs, 64, .inr (.inl u_5.2.2.2.2.2.1))), (aSg, .inl (cSg, 128, .inl u_5.2.2.2.2.2.2)), (aM, .inr (8, [.ref aNw, .ref rM_kept, .ref rM_isKept, .ref rM_refused, .int u_5.1, .int u_5.2.1, .ref aVs, .int u_5.2.2.1, .ref aSg, .int u_5.2.2.2.1, .long u_5.2.2.2.2.1, .int M_way, .int M_wish, .long M_moreTick, .long M_moreForce, .int u_321.1, .long u_321.2.1, .long u_321.2.2.1, .ref rM_was, .long M_peak, .long M_beside, .int M_besideAt])), (aNw, .inl (cNw, 139, .inr (.inl u_321.2.2.2)))]) ⟨hx, hb, hml, hown, hts⟩ (c_X8_signOf l G (u_321.2.2.2 0)) (kk_cwS 1 hts hsb wd_568 wd_569 wd_5 wd_570 rfl rfl hd_X8_signOf ⟨Nat.le_of_ble_eq_true rfl, Nat.le_of_ble_eq_true rfl⟩) hA hK hq [] [0, 1, 2, 3] [] rfl rfl rfl (by decide) (by decide) (by decide) rfl hl.1 rfl (Nat.le_of_ble_eq_true rfl) dX8_tickOnce_718 ⟨Nat.zero_le _, Nat.zero_le _⟩ (fun r_338 u_337 H locs h_339 hq => ?_)
                            obtain rfl := h_339
                            have hq : kAt G A s [(aVs, .inl (cVs, 64, .inr (.inl u_5.2.2.2.2.2.1))), (aSg, .inl (cSg, 128, .inl u_5.2.2.2.2.2.2)), (aM, .inr (8, [.ref aNw, .ref rM_kept, .ref rM_isKept, .ref rM_refused, .int u_5.1, .int u_5.2.1, .ref aVs, .int u_5.2.2.1, .ref aSg, .int u_5.2.2.2.1, .long u_5.2.2.2.2.1, .int M_way, .int M_wish, .long M_moreTick, .long M_moreForce, .int u_321.1, .long u_321.2.1, .long u_321.2.2.1, .ref rM_was, .long M_peak, .long M_beside, .int M_besideAt])), (aNw, .inl (cNw, 139, .inr (.inl u_321.2.2.2)))] H locs := hq
                            refine lv_icmp_eq (tgt := 728) hx hb dX8_tickOnce_721 (by decide) (fun c_340 => ?_) (fun c_340 => ?_)
                            · skip
                              refine lv_iconst (v := 0) hx hb dX8_tickOnce_728 (by decide) ?_
                              exact J_326 0 _ _ _ ⟨((if_neg c_324).trans ((if_neg c_333).trans (if_pos c_340))).symm, lv_sub hl [0, 1, 2, 3, 4, 5, 6, 7] rfl, hq⟩
                            · skip
                              refine lv_iconst (v := 1) hx hb dX8_tickOnce_724 (by decide) ?_
                              refine lv_goto (tgt := 729) hx hb dX8_tickOnce_725 (by decide) ?_
                              exact J_326 1 _ _ _ ⟨((if_neg c_324).trans ((if_neg c_333).trans (if_neg c_340))).symm, lv_sub hl [0, 1, 2, 3, 4, 5, 6, 7] rfl, hq⟩
                    · skip
                      refine kk_lc_le (tgt := 611) hx hb dX8_tickOnce_602 dX8_tickOnce_603 (by decide) (fun c_317 => ?_) (fun c_317 => ?_)
                      · skip
                        refine lv_aload_n hx hb dX8_tickOnce_611 rfl (lv_at hl 7 rfl) ?_
                        refine kk_get (ci := 8) (v := .ref aNw) (C := RX8) (T := TX8) (N := 22) hx hb hts iX8 hown hK hq 2 rfl rfl 0 (by decide) lk0_ rfl dX8_tickOnce_612 ?_
                        refine lv_bipush (v := 9) hx hb dX8_tickOnce_615 (by decide) ?_
                        refine kk_lald hx hb hK hq 3 0 rfl rfl 9 rfl (by decide) (by decide) dX8_tickOnce_617 ?_
                        refine W.eq (g2 := F0 m 618 ls [.long (z_43.2 9), .int 9, .ref aNw]) (by subst efNw_316 efNw_314 efNw_313 efNw_312 efNw_214 efNw_213 efNw_79 efNw_77 efNw_75 efNw_70 efNw_65 efNw_57 efNw_48; rfl) ?_
                        exact J_319 (z_43.2 9) _ _ _ ⟨(if_neg c_317).symm, lv_sub hl [0, 1, 2, 3, 4, 5, 6, 7] rfl, hq⟩
                      · skip
                        refine lv_lload hx hb dX8_tickOnce_606 (lv_at hl 0 rfl) ?_
                        refine lv_goto (tgt := 618) hx hb dX8_tickOnce_608 (by decide) ?_
                        exact J_319 x13_218 _ _ _ ⟨(if_pos c_317).symm, lv_sub hl [0, 1, 2, 3, 4, 5, 6, 7] rfl, hq⟩
                  · skip
                    refine kk_lc_le (tgt := 557) hx hb dX8_tickOnce_547 dX8_tickOnce_548 (by decide) (fun c_309 => ?_) (fun c_309 => ?_)
                    · skip
                      refine lv_ldc2 hx hb hown lk9_ dX8_tickOnce_557 ?_
                      exact J_311 (-1000000) _ _ _ ⟨(if_neg c_309).symm, lv_sub hl [0, 1, 2, 3, 4, 5, 6, 7] rfl, hq⟩
                    · skip
                      refine lv_ldc2 hx hb hown lk8_ dX8_tickOnce_551 ?_
                      refine lv_goto (tgt := 560) hx hb dX8_tickOnce_554 (by decide) ?_
                      exact J_311 1000000 _ _ _ ⟨(if_pos c_309).symm, lv_sub hl [0, 1, 2, 3, 4, 5, 6, 7] rfl, hq⟩
              · skip
                refine kk_lc_le (tgt := 501) hx hb dX8_tickOnce_491 dX8_tickOnce_492 (by decide) (fun c_210 => ?_) (fun c_210 => ?_)
                · skip
                  refine lv_ldc2 hx hb hown lk9_ dX8_tickOnce_501 ?_
                  exact J_212 (-1000000) _ _ _ ⟨(if_neg c_210).symm, lv_sub hl [0, 1, 2, 3, 4, 5, 6] rfl, hq⟩
                · skip
                  refine lv_ldc2 hx hb hown lk8_ dX8_tickOnce_495 ?_
                  refine lv_goto (tgt := 504) hx hb dX8_tickOnce_498 (by decide) ?_
                  exact J_212 1000000 _ _ _ ⟨(if_pos c_210).symm, lv_sub hl [0, 1, 2, 3, 4, 5, 6] rfl, hq⟩
          · skip
            refine kk_lc_ne (tgt := 286) hx hb dX8_tickOnce_275 dX8_tickOnce_276 (by decide) (fun c_44 => ?_) (fun c_44 => ?_)
            · skip
              refine lv_lconst (v := 0) hx hb dX8_tickOnce_286 (by decide) ?_
              exact J_46 0 _ _ _ ⟨(if_neg c_44).symm, lv_sub hl [0, 1, 2, 3, 4, 5, 6] rfl, hq⟩
            · skip
              refine lv_aload_n hx hb dX8_tickOnce_279 rfl (lv_at hl 6 rfl) ?_
              refine kk_get (ci := 8) (v := .long M_moreForce) (C := RX8) (T := TX8) (N := 22) hx hb hts iX8 hown hK hq 2 rfl rfl 14 (by decide) lk6_ rfl dX8_tickOnce_280 ?_
              refine lv_goto (tgt := 287) hx hb dX8_tickOnce_283 (by decide) ?_
              exact J_46 M_moreForce _ _ _ ⟨(if_pos c_44).symm, lv_sub hl [0, 1, 2, 3, 4, 5, 6] rfl, hq⟩
        · skip
          have hk8 := push_lt wn ag hpm c_40
          refine lv_aload_n hx hb dX8_tickOnce_205 rfl (lv_at hl 6 rfl) ?_
          refine kk_get (ci := 8) (v := .ref aNw) (C := RX8) (T := TX8) (N := 22) hx hb hts iX8 hown hK hq 2 rfl rfl 0 (by decide) lk0_ rfl dX8_tickOnce_206 ?_
          refine lv_iconst (v := 1) hx hb dX8_tickOnce_209 (by decide) ?_
          refine lv_dup2_11 hx hb dX8_tickOnce_210 rfl rfl ?_
          refine kk_lald hx hb hK hq 3 0 rfl rfl 1 rfl (by decide) (by decide) dX8_tickOnce_211 ?_
          refine lv_aload_n hx hb dX8_tickOnce_212 rfl (lv_at hl 6 rfl) ?_
          refine kk_get (ci := 8) (v := .ref aNw) (C := RX8) (T := TX8) (N := 22) hx hb hts iX8 hown hK hq 2 rfl rfl 0 (by decide) lk0_ rfl dX8_tickOnce_213 ?_
          refine lv_bipush (v := 123) hx hb dX8_tickOnce_216 (by decide) ?_
          refine lv_iconst (v := 2) hx hb dX8_tickOnce_218 (by decide) ?_
          refine lv_iload hx hb dX8_tickOnce_219 (lv_at hl 0 rfl) ?_
          refine lv_imul hx hb dX8_tickOnce_221 ?_
          refine lv_iadd hx hb dX8_tickOnce_222 ?_
          refine kk_lald hx hb hK hq 3 0 rfl rfl (123 + 2 * k.toNatClampNeg) (ix_2 123 k0 hk8 (by decide)).1 (ix_2 123 k0 hk8 (by decide)).2 (by decide) dX8_tickOnce_223 ?_
          refine lv_aload_n hx hb dX8_tickOnce_224 rfl (lv_at hl 6 rfl) ?_
          refine kk_get (ci := 8) (v := .ref aNw) (C := RX8) (T := TX8) (N := 22) hx hb hts iX8 hown hK hq 2 rfl rfl 0 (by decide) lk0_ rfl dX8_tickOnce_225 ?_
          refine lv_iconst (v := 5) hx hb dX8_tickOnce_228 (by decide) ?_
          refine kk_lald hx hb hK hq 3 0 rfl rfl 5 rfl (by decide) (by decide) dX8_tickOnce_229 ?_
          refine kk_join1 (fun (z0_342 : Int64) (H : Heap) (locs : List Loc) (ls : Array Slot) => z0_342 = (if nf (123 + 2 * k.toNatClampNeg) = nf 5 then nf (124 + 2 * k.toNatClampNeg) else 0) ∧ lv_has ls 16 [(11, .int k), (9, .long r_21), (7, .long r_16), (5, .long z0_13), (3, .long r_3), (1, .long x1_1), (0, .ref aM)] ∧ kAt G A s [(aVs, .inl (cVs, 64, .inr (.inl u_5.2.2.2.2.2.1))), (aSg, .inl (cSg, 128, .inl u_5.2.2.2.2.2.2)), (aM, .inr (8, [.ref aNw, .ref rM_kept, .ref rM_isKept, .ref rM_refused, .int u_5.1, .int u_5.2.1, .ref aVs, .int u_5.2.2.1, .ref aSg, .int u_5.2.2.2.1, .long u_5.2.2.2.2.1, .int M_way, .int M_wish, .long M_moreTick, .long M_moreForce, .int M_runTurns, .long M_runFirst, .long M_runLast, .ref rM_was, .long M_peak, .long M_beside, .int M_besideAt])), (aNw, .inl (cNw, 139, .inr (.inl nf)))] H locs) 250 (fun z0_342 => [.long z0_342, .long (nf 1), .int 1, .ref aNw]) (fun z0_342 H locs ls hv => ?_) (fun J_343 => ?_)
          · skip
            obtain ⟨ez0_342, hl, hq⟩ := hv
            refine lv_ladd hx hb dX8_tickOnce_250 ?_
            refine lv_topl (fun w_344 ew_344 => ?_)
            refine kk_last (ws' := [(aVs, .inl (cVs, 64, .inr (.inl u_5.2.2.2.2.2.1))), (aSg, .inl (cSg, 128, .inl u_5.2.2.2.2.2.2)), (aM, .inr (8, [.ref aNw, .ref rM_kept, .ref rM_isKept, .ref rM_refused, .int u_5.1, .int u_5.2.1, .ref aVs, .int u_5.2.2.1, .ref aSg, .int u_5.2.2.2.1, .long u_5.2.2.2.2.1, .int M_way, .int M_wish, .long M_moreTick, .long M_moreForce, .int M_runTurns, .long M_runFirst, .long M_runLast, .ref rM_was, .long M_peak, .long M_beside, .int M_besideAt])), (aNw, .inl (cNw, 139, .inr (.inl (vp_updL nf 1 w_344))))]) hx hb hK hq 3 0 rfl rfl 1 rfl (by decide) (by decide) dX8_tickOnce_251 rfl (fun H locs hq => ?_)
            obtain ⟨fNw_345, efNw_345⟩ : ∃ z : Nat → Int64, z = vp_updL nf 1 w_344 := ⟨_, rfl⟩
            rw [← efNw_345] at hq
            have agfNw_345 := AG_u efNw_345 (by assumption) (by decide)
            refine lv_iinc (v := k + 1) (lv' := [(11, .int (k + 1)), (9, .long r_21), (7, .long r_16), (5, .long z0_13), (3, .long r_3), (1, .long x1_1), (0, .ref aM)]) hx hb dX8_tickOnce_252 hl (k := 0) rfl rfl (by decide) rfl (fun ls hl => ?_)
            refine lv_goto (tgt := 196) hx hb dX8_tickOnce_255 (by decide) ?_
            have hst_346 : lpX8_tickOnce_196 (N196 + 1) k nf = lpX8_tickOnce_196 N196 (k + 1) fNw_345 := by
              subst efNw_345 ew_344 ez0_342 er_38
              exact (if_neg c_40).trans (rfl)
            exact ih196 (k + 1) fNw_345 _ _ _ ⟨(hrel196.trans (hst_346)), (by have := kk_inc (x := k) (by omega); omega), (by have := kk_inc (x := k) (by omega); omega), (by have := kk_inc (x := k) (by omega); omega), (by assumption), lv_sub hl [0, 1, 2, 3, 4, 5, 6] rfl, hq⟩
          · skip
            refine kk_lc_ne (tgt := 249) hx hb dX8_tickOnce_230 dX8_tickOnce_231 (by decide) (fun c_341 => ?_) (fun c_341 => ?_)
            · skip
              refine lv_lconst (v := 0) hx hb dX8_tickOnce_249 (by decide) ?_
              exact J_343 0 _ _ _ ⟨(if_neg c_341).symm, lv_sub hl [0, 1, 2, 3, 4, 5, 6] rfl, hq⟩
            · skip
              refine lv_aload_n hx hb dX8_tickOnce_234 rfl (lv_at hl 6 rfl) ?_
              refine kk_get (ci := 8) (v := .ref aNw) (C := RX8) (T := TX8) (N := 22) hx hb hts iX8 hown hK hq 2 rfl rfl 0 (by decide) lk0_ rfl dX8_tickOnce_235 ?_
              refine lv_bipush (v := 124) hx hb dX8_tickOnce_238 (by decide) ?_
              refine lv_iconst (v := 2) hx hb dX8_tickOnce_240 (by decide) ?_
              refine lv_iload hx hb dX8_tickOnce_241 (lv_at hl 0 rfl) ?_
              refine lv_imul hx hb dX8_tickOnce_243 ?_
              refine lv_iadd hx hb dX8_tickOnce_244 ?_
              refine kk_lald hx hb hK hq 3 0 rfl rfl (124 + 2 * k.toNatClampNeg) (ix_2 124 k0 hk8 (by decide)).1 (ix_2 124 k0 hk8 (by decide)).2 (by decide) dX8_tickOnce_245 ?_
              refine lv_goto (tgt := 250) hx hb dX8_tickOnce_246 (by decide) ?_
              exact J_343 (nf (124 + 2 * k.toNatClampNeg)) _ _ _ ⟨(if_pos c_341).symm, lv_sub hl [0, 1, 2, 3, 4, 5, 6] rfl, hq⟩
    · skip
      refine kk_lc_le (tgt := 185) hx hb dX8_tickOnce_175 dX8_tickOnce_176 (by decide) (fun c_33 => ?_) (fun c_33 => ?_)
      · skip
        refine lv_aload_n hx hb dX8_tickOnce_185 rfl (lv_at hl 5 rfl) ?_
        refine kk_get (ci := 8) (v := .ref aNw) (C := RX8) (T := TX8) (N := 22) hx hb hts iX8 hown hK hq 2 rfl rfl 0 (by decide) lk0_ rfl dX8_tickOnce_186 ?_
        refine lv_bipush (v := 7) hx hb dX8_tickOnce_189 (by decide) ?_
        refine kk_lald hx hb hK hq 3 0 rfl rfl 7 rfl (by decide) (by decide) dX8_tickOnce_191 ?_
        refine W.eq (g2 := F0 m 192 ls [.long w_31, .int 7, .ref aNw]) (by subst efNw_32; rfl) ?_
        exact J_35 w_31 _ _ _ ⟨(if_neg c_33).symm, lv_sub hl [0, 1, 2, 3, 4, 5] rfl, hq⟩
      · skip
        refine lv_ldc2 hx hb hown lk4_ dX8_tickOnce_179 ?_
        refine lv_goto (tgt := 192) hx hb dX8_tickOnce_182 (by decide) ?_
        exact J_35 1000000000 _ _ _ ⟨(if_pos c_33).symm, lv_sub hl [0, 1, 2, 3, 4, 5] rfl, hq⟩
  · skip
    refine kk_lc_le (tgt := 49) hx hb dX8_tickOnce_37 dX8_tickOnce_38 (by decide) (fun c_12 => ?_) (fun c_12 => ?_)
    · skip
      refine lv_lload hx hb dX8_tickOnce_49 (lv_at hl 0 rfl) ?_
      refine lv_aload_n hx hb dX8_tickOnce_51 rfl (lv_at hl 3 rfl) ?_
      refine lv_iconst (v := 4) hx hb dX8_tickOnce_52 (by decide) ?_
      refine kk_Vl (As := [.int 4]) (rest := [.long x5_8]) (wr := [(aVs, .inl (cVs, 64, .inr (.inl u_5.2.2.2.2.2.1))), (aSg, .inl (cSg, 128, .inl u_5.2.2.2.2.2.2))]) ⟨hx, hb, hml, hown, hts⟩ (c_X8_of l G aM aNw rM_kept rM_isKept rM_refused aVs aSg rM_was cNw 4 u_5.1 u_5.2.1 u_5.2.2.1 u_5.2.2.2.1 u_5.2.2.2.2.1 M_way M_wish M_moreTick M_moreForce M_runTurns M_runFirst M_runLast M_peak M_beside M_besideAt fNw (by decide) (by decide)) (kk_cwV 1 hts hsb wd_163 wd_164 wd_165 wd_5 wd_166 rfl rfl hd_X8_of ⟨Nat.le_of_ble_eq_true rfl, Nat.le_of_ble_eq_true rfl⟩) hA hK hq [2, 3] [0, 1] [0] rfl rfl rfl (by decide) (by decide) (by decide) 0 8 rfl rfl rfl rfl hl.1 rfl (Nat.le_of_ble_eq_true rfl) dX8_tickOnce_53 ⟨Nat.zero_le _, Nat.zero_le _⟩ (fun r_348 u_347 H locs h_349 hq => ?_)
      obtain rfl := h_349
      have hq : kAt G A s [(aVs, .inl (cVs, 64, .inr (.inl u_5.2.2.2.2.2.1))), (aSg, .inl (cSg, 128, .inl u_5.2.2.2.2.2.2)), (aM, .inr (8, [.ref aNw, .ref rM_kept, .ref rM_isKept, .ref rM_refused, .int u_5.1, .int u_5.2.1, .ref aVs, .int u_5.2.2.1, .ref aSg, .int u_5.2.2.2.1, .long u_5.2.2.2.2.1, .int M_way, .int M_wish, .long M_moreTick, .long M_moreForce, .int M_runTurns, .long M_runFirst, .long M_runLast, .ref rM_was, .long M_peak, .long M_beside, .int M_besideAt])), (aNw, .inl (cNw, 139, .inr (.inl fNw)))] H locs := hq
      refine lv_lneg hx hb dX8_tickOnce_56 ?_
      refine kk_lc_ge (tgt := 70) hx hb dX8_tickOnce_57 dX8_tickOnce_58 (by decide) (fun c_350 => ?_) (fun c_350 => ?_)
      · skip
        refine lv_lload hx hb dX8_tickOnce_70 (lv_at hl 0 rfl) ?_
        exact J_14 x5_8 _ _ _ ⟨((if_neg c_12).trans (if_neg c_350)).symm, lv_sub hl [0, 1, 2, 3] rfl, hq⟩
      · skip
        refine lv_aload_n hx hb dX8_tickOnce_61 rfl (lv_at hl 3 rfl) ?_
        refine lv_iconst (v := 4) hx hb dX8_tickOnce_62 (by decide) ?_
        refine kk_Vl (As := [.int 4]) (rest := []) (wr := [(aVs, .inl (cVs, 64, .inr (.inl u_5.2.2.2.2.2.1))), (aSg, .inl (cSg, 128, .inl u_5.2.2.2.2.2.2))]) ⟨hx, hb, hml, hown, hts⟩ (c_X8_of l G aM aNw rM_kept rM_isKept rM_refused aVs aSg rM_was cNw 4 u_5.1 u_5.2.1 u_5.2.2.1 u_5.2.2.2.1 u_5.2.2.2.2.1 M_way M_wish M_moreTick M_moreForce M_runTurns M_runFirst M_runLast M_peak M_beside M_besideAt fNw (by decide) (by decide)) (kk_cwV 1 hts hsb wd_163 wd_164 wd_165 wd_5 wd_166 rfl rfl hd_X8_of ⟨Nat.le_of_ble_eq_true rfl, Nat.le_of_ble_eq_true rfl⟩) hA hK hq [2, 3] [0, 1] [0] rfl rfl rfl (by decide) (by decide) (by decide) 0 8 rfl rfl rfl rfl hl.1 rfl (Nat.le_of_ble_eq_true rfl) dX8_tickOnce_63 ⟨Nat.zero_le _, Nat.zero_le _⟩ (fun r_352 u_351 H locs h_353 hq => ?_)
        obtain rfl := h_353
        have hq : kAt G A s [(aVs, .inl (cVs, 64, .inr (.inl u_5.2.2.2.2.2.1))), (aSg, .inl (cSg, 128, .inl u_5.2.2.2.2.2.2)), (aM, .inr (8, [.ref aNw, .ref rM_kept, .ref rM_isKept, .ref rM_refused, .int u_5.1, .int u_5.2.1, .ref aVs, .int u_5.2.2.1, .ref aSg, .int u_5.2.2.2.1, .long u_5.2.2.2.2.1, .int M_way, .int M_wish, .long M_moreTick, .long M_moreForce, .int M_runTurns, .long M_runFirst, .long M_runLast, .ref rM_was, .long M_peak, .long M_beside, .int M_besideAt])), (aNw, .inl (cNw, 139, .inr (.inl fNw)))] H locs := hq
        refine lv_lneg hx hb dX8_tickOnce_66 ?_
        refine lv_goto (tgt := 72) hx hb dX8_tickOnce_67 (by decide) ?_
        exact J_14 (-(fX8_of 4 fNw)) _ _ _ ⟨((if_neg c_12).trans (if_pos c_350)).symm, lv_sub hl [0, 1, 2, 3] rfl, hq⟩
    · skip
      refine lv_aload_n hx hb dX8_tickOnce_41 rfl (lv_at hl 3 rfl) ?_
      refine lv_iconst (v := 4) hx hb dX8_tickOnce_42 (by decide) ?_
      refine kk_Vl (As := [.int 4]) (rest := []) (wr := [(aVs, .inl (cVs, 64, .inr (.inl u_5.2.2.2.2.2.1))), (aSg, .inl (cSg, 128, .inl u_5.2.2.2.2.2.2))]) ⟨hx, hb, hml, hown, hts⟩ (c_X8_of l G aM aNw rM_kept rM_isKept rM_refused aVs aSg rM_was cNw 4 u_5.1 u_5.2.1 u_5.2.2.1 u_5.2.2.2.1 u_5.2.2.2.2.1 M_way M_wish M_moreTick M_moreForce M_runTurns M_runFirst M_runLast M_peak M_beside M_besideAt fNw (by decide) (by decide)) (kk_cwV 1 hts hsb wd_163 wd_164 wd_165 wd_5 wd_166 rfl rfl hd_X8_of ⟨Nat.le_of_ble_eq_true rfl, Nat.le_of_ble_eq_true rfl⟩) hA hK hq [2, 3] [0, 1] [0] rfl rfl rfl (by decide) (by decide) (by decide) 0 8 rfl rfl rfl rfl hl.1 rfl (Nat.le_of_ble_eq_true rfl) dX8_tickOnce_43 ⟨Nat.zero_le _, Nat.zero_le _⟩ (fun r_355 u_354 H locs h_356 hq => ?_)
      obtain rfl := h_356
      have hq : kAt G A s [(aVs, .inl (cVs, 64, .inr (.inl u_5.2.2.2.2.2.1))), (aSg, .inl (cSg, 128, .inl u_5.2.2.2.2.2.2)), (aM, .inr (8, [.ref aNw, .ref rM_kept, .ref rM_isKept, .ref rM_refused, .int u_5.1, .int u_5.2.1, .ref aVs, .int u_5.2.2.1, .ref aSg, .int u_5.2.2.2.1, .long u_5.2.2.2.2.1, .int M_way, .int M_wish, .long M_moreTick, .long M_moreForce, .int M_runTurns, .long M_runFirst, .long M_runLast, .ref rM_was, .long M_peak, .long M_beside, .int M_besideAt])), (aNw, .inl (cNw, 139, .inr (.inl fNw)))] H locs := hq
      refine lv_goto (tgt := 72) hx hb dX8_tickOnce_46 (by decide) ?_
      exact J_14 (fX8_of 4 fNw) _ _ _ ⟨(if_pos c_12).symm, lv_sub hl [0, 1, 2, 3] rfl, hq⟩
