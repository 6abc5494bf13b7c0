theorem AP_c {g g' : Nat → Int64} {x c : Int64} (e : g' = vp_updL g 0 x) (hx : x = if 0 < c then 1000000 else (-1000000)) : -1000000 ≤ (g' 0).toInt ∧ (g' 0).toInt ≤ 1000000 := by
  subst e
  show -1000000 ≤ x.toInt ∧ x.toInt ≤ 1000000
  rw [hx]
  split <;> decide
theorem jl_negi {x : Int64} (h : -9223372036854775808 < x.toInt) : (-x).toInt = -x.toInt := by
  have := jl_hi x
  rw [Int64.toInt_neg]; exact Int.bmod_eq_of_le (by omega) (by omega)
theorem size_b {w : Int64} (h : ¬ 0 < fX8_size w - 1000000) : -1000000 ≤ w.toInt ∧ w.toInt ≤ 1000000 := by
  have e1 : (1000000 : Int64).toInt = 1000000 := rfl
  have e0 : (0 : Int64).toInt = 0 := rfl
  have h1 := jl_hi w
  have h2 := jl_lo w
  by_cases hm : w.toInt = -9223372036854775808
  · have : w = -9223372036854775808 := Int64.toInt_inj.mp hm
    subst this
    exact absurd (by decide) h
  · have hs : (fX8_size w).toInt = if w.toInt < 0 then -w.toInt else w.toInt := by
      show (if w < 0 then -w else w).toInt = _
      by_cases hw : w < 0
      · rw [if_pos hw, if_pos (by rw [jl_lt] at hw; omega), jl_negi (by omega)]
      · rw [if_neg hw, if_neg (by rw [jl_lt] at hw; omega)]
    rw [jl_lt, jl_subi (by rw [hs]; split <;> omega) (by rw [hs]; split <;> omega), hs] at h
    split at h <;> omega
def AF_ (f g : Nat → Int64) : Prop := (∀ j, 52 < j → g j = f j) ∧ (0 ≤ (g 2).toInt ∧ (g 2).toInt ≤ 9) ∧ (0 ≤ (g 6).toInt ∧ (g 6).toInt ≤ (f 6).toInt + 1) ∧ (-1000000 ≤ (g 0).toInt ∧ (g 0).toInt ≤ 1000000)
theorem updL_ne {g : Nat → Int64} {k j : Nat} {x : Int64} (h : j ≠ k) : vp_updL g k x j = g j := if_neg h
theorem updL_eq {g : Nat → Int64} {k : Nat} {x : Int64} : vp_updL g k x k = x := if_pos rfl
theorem AF_u {f g g' : Nat → Int64} {k : Nat} {x : Int64} (e : g' = vp_updL g k x) (h : AF_ f g) (hk : k ≤ 52 ∧ k ≠ 2 ∧ k ≠ 6 ∧ k ≠ 0) : AF_ f g' := by
  subst e
  obtain ⟨h1, h2, h3, h4⟩ := h
  unfold AF_
  rw [updL_ne (j := 2) (by omega), updL_ne (j := 6) (by omega), updL_ne (j := 0) (by omega)]
  exact ⟨fun j hj => by rw [updL_ne (by omega)]; exact h1 j hj, h2, h3, h4⟩
theorem AF_of {f g : Nat → Int64} (wn : WN_ f) (h : AG_ f g) (hb : -1000000 ≤ (g 0).toInt ∧ (g 0).toInt ≤ 1000000) : AF_ f g := by
  have h6 := wn.2.2.1
  exact ⟨h.1, h.2.1, by rw [h.2.2]; omega, hb⟩
theorem AF_turned {f g : Nat → Int64} {a : Int32} {b : Int64} (wn : WN_ f) (tb : (f 6).toInt ≤ 2000000000) (h : AG_ f g) (hb : -1000000 ≤ (g 0).toInt ∧ (g 0).toInt ≤ 1000000) : AF_ f (fX8_turned a b g).2.2.2 := by
  have h6 := wn.2.2.1
  have hm : (g 6).toInt.toNat % 40 < 40 := Nat.mod_lt _ (by decide)
  unfold fX8_turned
  dsimp only
  unfold AF_
  rw [updL_eq]
  refine ⟨fun j hj => ?_, ?_, ?_, ?_⟩
  · rw [updL_ne (by omega), updL_ne (by omega), updL_ne (by omega)]; exact h.1 j hj
  · rw [updL_ne (j := 2) (by omega), updL_ne (j := 2) (by omega), updL_ne (j := 2) (by omega)]; exact h.2.1
  · rw [updL_ne (j := 6) (k := 13 + (g 6).toInt.toNat % 40) (by omega), updL_ne (j := 6) (k := 4) (by omega), h.2.2, updL_eq, jl_inc (by omega)]; omega
  · rw [updL_ne (j := 0) (by omega), updL_ne (j := 0) (by omega), updL_ne (j := 0) (by omega)]; exact hb
theorem HB_u {g g' : Nat → Int64} {k : Nat} {x : Int64} (e : g' = vp_updL g k x) (h : -1000000 ≤ (g 0).toInt ∧ (g 0).toInt ≤ 1000000) (hk : 0 ≠ k) : -1000000 ≤ (g' 0).toInt ∧ (g' 0).toInt ≤ 1000000 := by
  subst e; rw [updL_ne hk]; exact h
theorem AF_WN {f g : Nat → Int64} (wn : WN_ f) (h : AF_ f g) : WN_ g := by
  obtain ⟨w1, w2, w3, w4, w5, w6, w7, w8, w9, w10⟩ := wn
  obtain ⟨h1, h2, h3, h4⟩ := h
  unfold WN_
  rw [h1 61 (by decide), h1 122 (by decide), h1 53 (by decide), h1 56 (by decide), h1 57 (by decide), h1 60 (by decide), h1 54 (by decide)]
  exact ⟨w1, w2, h3.1, h2, w5, w6, w7, w8, h4, w10⟩
theorem wished_b (M_at M_fault M_valueMany M_signMany : Int32) (M_tells : Int64) (M_way M_wish : Int32) (fNw fVs : Nat → Int64) (fSg : Nat → Int32) (hh : 0 ≤ (fNw 2).toInt ∧ (fNw 2).toInt ≤ 9) (wh : M_way = 1 → 0 ≤ M_wish.toInt ∧ M_wish.toInt ≤ 9) : 0 ≤ (fX8_wished M_at M_fault M_valueMany M_signMany M_tells M_way M_wish fNw fVs fSg).1.toInt ∧ (fX8_wished M_at M_fault M_valueMany M_signMany M_tells M_way M_wish fNw fVs fSg).1.toInt ≤ 9 := by
  unfold fX8_wished
  generalize fX8_reads fNw fVs fSg = R
  dsimp only
  split
  · rename_i h
    show 0 ≤ M_wish.toInt64.toInt ∧ M_wish.toInt64.toInt ≤ 9
    rw [Int32.toInt_toInt64]
    exact wh h
  · split
    · split
      · show 0 ≤ (9 : Int64).toInt ∧ (9 : Int64).toInt ≤ 9
        decide
      · show 0 ≤ (0 : Int64).toInt ∧ (0 : Int64).toInt ≤ 9
        decide
    · split
      · exact hh
      · split
        · show 0 ≤ (0 : Int64).toInt ∧ (0 : Int64).toInt ≤ 9
          decide
        · rename_i h1
          split
          · show 0 ≤ (9 : Int64).toInt ∧ (9 : Int64).toInt ≤ 9
            decide
          · rename_i h2
            exact ⟨jl_nlt (k := 0) rfl h1, jl_ngt (k := 9) rfl h2⟩
theorem tk_eq (N : Nat) (k : Int32) (nf : Nat → Int64) : lpX8_tickOnce_196 (N + 1) k nf = if fX8_pushMany nf ≤ k then (k, nf) else lpX8_tickOnce_196 N (k + 1) (vp_updL nf 1 (nf 1 + (if nf (123 + 2 * k.toNatClampNeg) = nf 5 then nf (124 + 2 * k.toNatClampNeg) else 0))) := rfl
theorem tk_loop {f : Nat → Int64} (wn : WN_ f) : ∀ (N : Nat) (k : Int32) (nf : Nat → Int64), AG_ f nf → 0 ≤ k.toInt → k.toInt ≤ 8 → k.toInt + N = 9 → AG_ f (lpX8_tickOnce_196 N k nf).2 ∧ ∀ j, j ≠ 1 → (lpX8_tickOnce_196 N k nf).2 j = nf j
  | 0, k, nf, ag, h0, h8, hN => by omega
  | N + 1, k, nf, ag, h0, h8, hN => by
    rw [tk_eq]
    split
    · exact ⟨ag, fun j hj => rfl⟩
    · rename_i h
      have hk8 := push_lt wn ag rfl h
      have hi := kk_inc (x := k) (by omega)
      have ih := tk_loop wn N (k + 1) (vp_updL nf 1 (nf 1 + (if nf (123 + 2 * k.toNatClampNeg) = nf 5 then nf (124 + 2 * k.toNatClampNeg) else 0))) (AG_u (g := nf) (k := 1) rfl ag (by decide)) (by omega) (by omega) (by omega)
      exact ⟨ih.1, fun j hj => (ih.2 j hj).trans (updL_ne hj)⟩
set_option maxHeartbeats 4000000 in
set_option maxRecDepth 100000 in
theorem tick_AF (M_at : Int32) (M_fault : Int32) (M_valueMany : Int32) (M_signMany : Int32) (M_tells : Int64) (M_way : Int32) (M_wish : Int32) (M_moreTick : Int64) (M_moreForce : Int64) (M_runTurns : Int32) (M_runFirst : Int64) (M_runLast : Int64) (fNw : Nat → Int64) (fVs : Nat → Int64) (fSg : Nat → Int32) (wn : WN_ fNw) (wh : M_way = 1 → 0 ≤ M_wish.toInt ∧ M_wish.toInt ≤ 9) (tb : (fNw 6).toInt ≤ 2000000000) : AF_ fNw (fX8_tickOnce M_at M_fault M_valueMany M_signMany M_tells M_way M_wish M_moreTick M_moreForce M_runTurns M_runFirst M_runLast fNw fVs fSg).2.2.2.2.2.2.2.2.1 := by
  have wb := wished_b M_at M_fault M_valueMany M_signMany M_tells M_way M_wish fNw fVs fSg wn.2.2.2.1 wh
  refine spX8_tickOnce_ok M_at M_fault M_valueMany M_signMany M_tells M_way M_wish M_moreTick M_moreForce M_runTurns M_runFirst M_runLast fNw fVs fSg (fun T => AF_ fNw T.2.2.2.2.2.2.2.2.1) ?_
  unfold spX8_tickOnce
  intro x1_1 ex1_1
  intro r_3 er_3
  intro r_6 er_6
  intro u_5 eu_5
  intro x5_8 ex5_8
  intro r_10 er_10
  intro z0_13 ez0_13
  have hst := steps_ok wn.2.2.2.1 (by rw [er_6]; exact wb.1) (by rw [er_6]; exact wb.2) wn.2.2.2.2.2.2.1 er_10 ex5_8 ez0_13
  intro r_16 er_16
  intro w_18 ew_18
  intro fNw_19 efNw_19
  have agfNw_19 : AG_ fNw fNw_19 := AG_2 efNw_19 (by rw [ew_18]; exact hst)
  intro r_21 er_21
  intro r_24 er_24
  intro w_26 ew_26
  intro fNw_27 efNw_27
  have agfNw_27 := AG_u efNw_27 agfNw_19 (by decide)
  intro r_29 er_29
  intro w_31 ew_31
  intro fNw_32 efNw_32
  have agfNw_32 := AG_u efNw_32 agfNw_27 (by decide)
  intro z0_34 ez0_34
  intro fNw_36 efNw_36
  have agfNw_36 := AG_u efNw_36 agfNw_32 (by decide)
  intro z_43 ez_43
  have agz_43 : AG_ fNw z_43.2 := by rw [ez_43]; exact (tk_loop wn 9 0 fNw_36 agfNw_36 (by decide) (by decide) (by decide)).1
  intro z0_45 ez0_45
  intro w_47 ew_47
  intro fNw_48 efNw_48
  have agfNw_48 := AG_u efNw_48 agz_43 (by decide)
  intro r_50 er_50
  intro x11_52 ex11_52
  intro r_54 er_54
  intro w_56 ew_56
  intro fNw_57 efNw_57
  have agfNw_57 := AG_u efNw_57 agfNw_48 (by decide)
  intro r_59 er_59
  intro r_62 er_62
  intro w_64 ew_64
  intro fNw_65 efNw_65
  have agfNw_65 := AG_u efNw_65 agfNw_57 (by decide)
  intro r_67 er_67
  intro w_69 ew_69
  intro fNw_70 efNw_70
  have agfNw_70 := AG_u efNw_70 agfNw_65 (by decide)
  intro r_72 er_72
  intro w_74 ew_74
  intro fNw_75 efNw_75
  have agfNw_75 := AG_u efNw_75 agfNw_70 (by decide)
  intro w_76 ew_76
  intro fNw_77 efNw_77
  have agfNw_77 := AG_u efNw_77 agfNw_75 (by decide)
  have v0fNw_77 : fNw_77 0 = w_76 := by rw [efNw_77]; exact updL_eq
  intro w_78 ew_78
  intro fNw_79 efNw_79
  have agfNw_79 := AG_u efNw_79 agfNw_77 (by decide)
  have v0fNw_79 : fNw_79 0 = w_76 := by rw [efNw_79, updL_ne (by decide)]; exact v0fNw_77
  intro r_81 er_81
  refine ⟨fun c1 => ?_, fun c1 => ?_⟩
  · skip
    intro z0_211 ez0_211
    intro fNw_213 efNw_213
    have agfNw_213 := AG_u efNw_213 agfNw_79 (by decide)
    have v0fNw_213 : fNw_213 0 = w_76 := by rw [efNw_213, updL_ne (by decide)]; exact v0fNw_79
    intro fNw_214 efNw_214
    have agfNw_214 := AG_u efNw_214 agfNw_213 (by decide)
    have v0fNw_214 : fNw_214 0 = w_76 := by rw [efNw_214, updL_ne (by decide)]; exact v0fNw_213
    intro r_216 er_216
    intro x13_218 ex13_218
    refine ⟨fun c2 => ?_, fun c2 => ?_⟩
    · skip
      intro z0_310 ez0_310
      intro fNw_312 efNw_312
      have agfNw_312 := AG_u efNw_312 agfNw_214 (by decide)
      have hbfNw_312 := AP_c efNw_312 ez0_310
      intro fNw_313 efNw_313
      have agfNw_313 := AG_u efNw_313 agfNw_312 (by decide)
      have hbfNw_313 := HB_u efNw_313 hbfNw_312 (by decide)
      intro fNw_314 efNw_314
      have agfNw_314 := AG_u efNw_314 agfNw_313 (by decide)
      have hbfNw_314 := HB_u efNw_314 hbfNw_313 (by decide)
      intro w_315 ew_315
      intro fNw_316 efNw_316
      have agfNw_316 := AG_u efNw_316 agfNw_314 (by decide)
      have hbfNw_316 := HB_u efNw_316 hbfNw_314 (by decide)
      intro z0_318 ez0_318
      intro fNw_320 efNw_320
      have agfNw_320 := AG_u efNw_320 agfNw_316 (by decide)
      have hbfNw_320 := HB_u efNw_320 hbfNw_316 (by decide)
      intro u_321 eu_321
      have afu_321 : AF_ fNw u_321.2.2.2 := by rw [eu_321]; exact AF_turned wn tb agfNw_320 hbfNw_320
      intro z0_325 ez0_325
      intro z0_328 ez0_328
      intro fNw_330 efNw_330
      have affNw_330 := AF_u efNw_330 afu_321 (by decide)
      intro w_331 ew_331
      intro fNw_332 efNw_332
      have affNw_332 := AF_u efNw_332 affNw_330 (by decide)
      exact affNw_332
    · skip
      have hbfNw_214 : -1000000 ≤ (fNw_214 0).toInt ∧ (fNw_214 0).toInt ≤ 1000000 := by rw [v0fNw_214]; exact size_b (by rw [← er_216, ← ex13_218]; exact c2)
      have affNw_214 := AF_of wn agfNw_214 hbfNw_214
      refine ⟨fun c3 => ?_, fun c3 => ?_⟩
      · skip
        intro z0_222 ez0_222
        intro z0_225 ez0_225
        intro fNw_227 efNw_227
        have affNw_227 := AF_u efNw_227 affNw_214 (by decide)
        intro w_228 ew_228
        intro fNw_229 efNw_229
        have affNw_229 := AF_u efNw_229 affNw_227 (by decide)
        exact affNw_229
      · skip
        refine ⟨fun c4 => ?_, fun c4 => ?_⟩
        · skip
          intro r_240 er_240
          intro fNw_242 efNw_242
          have affNw_242 := AF_u efNw_242 affNw_214 (by decide)
          intro z0_244 ez0_244
          intro z0_247 ez0_247
          intro fNw_249 efNw_249
          have affNw_249 := AF_u efNw_249 affNw_242 (by decide)
          intro w_250 ew_250
          intro fNw_251 efNw_251
          have affNw_251 := AF_u efNw_251 affNw_249 (by decide)
          exact affNw_251
        · skip
          intro r_261 er_261
          refine ⟨fun c5 => ?_, fun c5 => ?_⟩
          · skip
            intro r_265 er_265
            intro fNw_267 efNw_267
            have affNw_267 := AF_u efNw_267 affNw_214 (by decide)
            intro z0_269 ez0_269
            intro z0_272 ez0_272
            intro fNw_274 efNw_274
            have affNw_274 := AF_u efNw_274 affNw_267 (by decide)
            intro w_275 ew_275
            intro fNw_276 efNw_276
            have affNw_276 := AF_u efNw_276 affNw_274 (by decide)
            exact affNw_276
          · skip
            intro u_285 eu_285
            have afu_285 : AF_ fNw u_285.2.2.2 := by rw [eu_285]; exact AF_turned wn tb agfNw_214 hbfNw_214
            intro r_289 er_289
            intro fNw_291 efNw_291
            have affNw_291 := AF_u efNw_291 afu_285 (by decide)
            intro z0_293 ez0_293
            intro z0_296 ez0_296
            intro fNw_298 efNw_298
            have affNw_298 := AF_u efNw_298 affNw_291 (by decide)
            intro w_299 ew_299
            intro fNw_300 efNw_300
            have affNw_300 := AF_u efNw_300 affNw_298 (by decide)
            exact affNw_300
  · skip
    intro r_85 er_85
    intro x13_87 ex13_87
    refine ⟨fun c6 => ?_, fun c6 => ?_⟩
    · skip
      intro z0_179 ez0_179
      intro fNw_181 efNw_181
      have agfNw_181 := AG_u efNw_181 agfNw_79 (by decide)
      have hbfNw_181 := AP_c efNw_181 ez0_179
      intro fNw_182 efNw_182
      have agfNw_182 := AG_u efNw_182 agfNw_181 (by decide)
      have hbfNw_182 := HB_u efNw_182 hbfNw_181 (by decide)
      intro fNw_183 efNw_183
      have agfNw_183 := AG_u efNw_183 agfNw_182 (by decide)
      have hbfNw_183 := HB_u efNw_183 hbfNw_182 (by decide)
      intro w_184 ew_184
      intro fNw_185 efNw_185
      have agfNw_185 := AG_u efNw_185 agfNw_183 (by decide)
      have hbfNw_185 := HB_u efNw_185 hbfNw_183 (by decide)
      intro z0_187 ez0_187
      intro fNw_189 efNw_189
      have agfNw_189 := AG_u efNw_189 agfNw_185 (by decide)
      have hbfNw_189 := HB_u efNw_189 hbfNw_185 (by decide)
      intro u_190 eu_190
      have afu_190 : AF_ fNw u_190.2.2.2 := by rw [eu_190]; exact AF_turned wn tb agfNw_189 hbfNw_189
      intro z0_194 ez0_194
      intro z0_197 ez0_197
      intro fNw_199 efNw_199
      have affNw_199 := AF_u efNw_199 afu_190 (by decide)
      intro w_200 ew_200
      intro fNw_201 efNw_201
      have affNw_201 := AF_u efNw_201 affNw_199 (by decide)
      exact affNw_201
    · skip
      have hbfNw_79 : -1000000 ≤ (fNw_79 0).toInt ∧ (fNw_79 0).toInt ≤ 1000000 := by rw [v0fNw_79]; exact size_b (by rw [← er_85, ← ex13_87]; exact c6)
      have affNw_79 := AF_of wn agfNw_79 hbfNw_79
      refine ⟨fun c7 => ?_, fun c7 => ?_⟩
      · skip
        intro z0_91 ez0_91
        intro z0_94 ez0_94
        intro fNw_96 efNw_96
        have affNw_96 := AF_u efNw_96 affNw_79 (by decide)
        intro w_97 ew_97
        intro fNw_98 efNw_98
        have affNw_98 := AF_u efNw_98 affNw_96 (by decide)
        exact affNw_98
      · skip
        refine ⟨fun c8 => ?_, fun c8 => ?_⟩
        · skip
          intro r_109 er_109
          intro fNw_111 efNw_111
          have affNw_111 := AF_u efNw_111 affNw_79 (by decide)
          intro z0_113 ez0_113
          intro z0_116 ez0_116
          intro fNw_118 efNw_118
          have affNw_118 := AF_u efNw_118 affNw_111 (by decide)
          intro w_119 ew_119
          intro fNw_120 efNw_120
          have affNw_120 := AF_u efNw_120 affNw_118 (by decide)
          exact affNw_120
        · skip
          intro r_130 er_130
          refine ⟨fun c9 => ?_, fun c9 => ?_⟩
          · skip
            intro r_134 er_134
            intro fNw_136 efNw_136
            have affNw_136 := AF_u efNw_136 affNw_79 (by decide)
            intro z0_138 ez0_138
            intro z0_141 ez0_141
            intro fNw_143 efNw_143
            have affNw_143 := AF_u efNw_143 affNw_136 (by decide)
            intro w_144 ew_144
            intro fNw_145 efNw_145
            have affNw_145 := AF_u efNw_145 affNw_143 (by decide)
            exact affNw_145
          · skip
            intro u_154 eu_154
            have afu_154 : AF_ fNw u_154.2.2.2 := by rw [eu_154]; exact AF_turned wn tb agfNw_79 hbfNw_79
            intro r_158 er_158
            intro fNw_160 efNw_160
            have affNw_160 := AF_u efNw_160 afu_154 (by decide)
            intro z0_162 ez0_162
            intro z0_165 ez0_165
            intro fNw_167 efNw_167
            have affNw_167 := AF_u efNw_167 affNw_160 (by decide)
            intro w_168 ew_168
            intro fNw_169 efNw_169
            have affNw_169 := AF_u efNw_169 affNw_167 (by decide)
            exact affNw_169

