theorem RI_0 (sf : Nat → Int32) : RI_ 0 0 0 0 1 sf := ⟨by decide, by decide, by decide, rfl, rfl, fun e => absurd e (by decide), fun j hj => absurd hj (Nat.not_lt_zero j), fun j hj => absurd hj (Nat.not_lt_zero _)⟩
theorem RI_hi2 {at_ at2 sm sm2 vn op op2 wa : Int32} {x : Int32} {sf sf2 : Nat → Int32} (esf : sf2 = upd sf sm.toNatClampNeg x) (h : RI_ at_ sm vn op wa sf) (hw : ¬ wa = 0) (hlt : at_.toInt < 60) (ea : at2 = at_ + 1) (es : sm2 = sm + 1) (hx : ¬ x < 1000) (hx2 : x = 1000 ∨ x = 1001 ∨ x = 1002) (ho : op2.toInt = op.toInt + (if x = 1000 then 1 else 0)) : RI_ at2 sm2 vn op2 wa sf2 := by
  rw [esf]; exact RI_hi h hw hlt ea es hx hx2 ho
theorem RI_wa {at_ sm vn op wa : Int32} {sf : Nat → Int32} (h : RI_ at_ sm vn op 0 sf) (e : wa = 0) : RI_ at_ sm vn op wa sf := by rw [e]; exact h
theorem RI_at {at_ at2 sm vn op wa : Int32} {sf : Nat → Int32} (h : RI_ at_ sm vn op wa sf) (h1 : at_.toInt ≤ at2.toInt) (h2 : at2.toInt ≤ 60) : RI_ at2 sm vn op wa sf := by
  obtain ⟨r1, r2, r3, r4, r5, r6, r7⟩ := h
  exact ⟨r1, by omega, h2, r4, r5, r6, r7⟩
theorem RI_vb {at_ sm vn op : Int32} {sf : Nat → Int32} (h : RI_ at_ sm vn op 0 sf) : vn.toInt = (bn_ sf sm.toNatClampNeg : Int) + 1 := by
  have := h.2.2.2.1
  rwa [if_pos rfl] at this
theorem nx_lt {r a : Int32} {f : Nat → Int64} {y : Int32} (nx : r = -1 ∨ (a.toInt < (f 61).toInt32.toInt ∧ r = y)) (h : r ≠ -1) (l1 : (f 61).toInt32.toInt ≤ 60) : a.toInt < 60 := by
  have := (nx.resolve_left h).1
  omega
theorem rd_dig {r a b fl : Int32} {f : Nat → Int64} (nx : r = -1 ∨ (a.toInt < (f 61).toInt32.toInt ∧ r = fX8_charAt a f)) (hin : ¬ fX8_in r.toInt64 48 57 = 0) (gw : a.toInt < b.toInt ∨ fl ≠ -1 ∨ fX8_lawLong f ≤ a ∨ fX8_in (fX8_charAt a f).toInt64 48 57 = 0) : a.toInt < b.toInt ∨ fl ≠ -1 := by
  rcases nx with e | ⟨h1, h2⟩
  · rw [e] at hin; exact absurd (by decide) hin
  · rcases gw with h | h | h | h
    · exact Or.inl h
    · exact Or.inr h
    · rw [il_le, ll_eq] at h; omega
    · rw [← h2] at h; exact absurd h hin
theorem name_b (c : Int32) : fX8_nameOf c = -1 ∨ (0 ≤ (fX8_nameOf c).toInt ∧ (fX8_nameOf c).toInt < 6) := by
  unfold fX8_nameOf
  dsimp only
  repeat (first | split | (exact Or.inl rfl) | (exact Or.inr (by decide)))
theorem rank_k {c : Int32} (h : ¬ fX8_rank c ≤ 0) : c < 1000 ∧ 1 ≤ fX8_rank c ∧ c ≠ -1 := by
  unfold fX8_rank at h ⊢
  repeat (first | (split at h) | (exact absurd (by decide) h) | (rename_i e; subst e; exact ⟨by decide, by decide, by decide⟩))
theorem hd_X8_ahead : yX8_ahead.cls = RX8 ∧ yX8_ahead.cls ≠ "java/lang/invoke/MethodHandle" ∧ yX8_ahead.cls ≠ "java/lang/invoke/VarHandle" ∧ (parseMethodDescriptor yX8_ahead.desc).map (fun d => d.parameters.length) = some 0 := by decide +kernel
theorem hd_X8_digits : yX8_digits.cls = RX8 ∧ yX8_digits.cls ≠ "java/lang/invoke/MethodHandle" ∧ yX8_digits.cls ≠ "java/lang/invoke/VarHandle" ∧ (parseMethodDescriptor yX8_digits.desc).map (fun d => d.parameters.length) = some 0 := by decide +kernel
theorem hd_X8_nameOf : yX8_nameOf.cls ≠ "java/lang/invoke/MethodHandle" ∧ yX8_nameOf.cls ≠ "java/lang/invoke/VarHandle" ∧ (parseMethodDescriptor yX8_nameOf.desc).map (fun d => d.parameters.length) = some 1 := by decide +kernel
theorem hd_X8_stands : yX8_stands.cls = RX8 ∧ yX8_stands.cls ≠ "java/lang/invoke/MethodHandle" ∧ yX8_stands.cls ≠ "java/lang/invoke/VarHandle" ∧ (parseMethodDescriptor yX8_stands.desc).map (fun d => d.parameters.length) = some 1 := by decide +kernel
theorem hd_X8_workDown : yX8_workDown.cls = RX8 ∧ yX8_workDown.cls ≠ "java/lang/invoke/MethodHandle" ∧ yX8_workDown.cls ≠ "java/lang/invoke/VarHandle" ∧ (parseMethodDescriptor yX8_workDown.desc).map (fun d => d.parameters.length) = some 1 := by decide +kernel
def lpX8_reads_26 (fNw : Nat → Int64) : Nat → Int32 → Int32 → Int32 → Int32 → Int32 → Int32 → Int32 → (Nat → Int64) → (Nat → Int32) → Int32 × Int32 × Int32 × Int32 × Int32 × Int32 × Int32 × (Nat → Int64) × (Nat → Int32)
  | 0, _, _, _, _, _, _, _, _, _ => (0, 0, 0, 0, 0, 0, 0, fun _ => 0, fun _ => 0)
  | N + 1, op, wa, go, at_, fl, vn, sm, vf, sf =>
    if go = 0 then (
    (op, wa, go, at_, fl, vn, sm, vf, sf))
    else (
    if fl = (-1) then (
    let r_4 : Int32 := (fX8_ahead at_ fNw).1
    let u_3 : Int32 := (fX8_ahead at_ fNw).2
    if wa = 0 then (
    if r_4 = 41 then (
    if op ≤ 0 then (
    let r_80 : Int32 := fX8_rank r_4
    if r_80 ≤ 0 then (
    if r_4 = (-1) then (
    if op = 0 then (
    let u_87 : Int32 × Int32 × (Nat → Int64) := fX8_workDown 1 vn sm vf sf
    lpX8_reads_26 fNw N op wa 0 u_3 fl u_87.1 u_87.2.1 u_87.2.2 sf)
    else (
    let fault_86 : Int32 := (10 * u_3) + 1
    lpX8_reads_26 fNw N op wa go u_3 fault_86 vn sm vf sf))
    else (
    let fault_84 : Int32 := (10 * u_3) + 1
    lpX8_reads_26 fNw N op wa go u_3 fault_84 vn sm vf sf))
    else (
    let r_91 : Int32 := fX8_rank r_4
    if r_91 = 3 then (
    let u_123 : Int32 × Int32 × (Nat → Int64) := fX8_workDown 4 vn sm vf sf
    let r_127 : Int32 := fX8_rank r_4
    if r_127 = 3 then (
    if u_123.2.1 ≤ 0 then (
    let at_134 : Int32 := u_3 + 1
    let fSg_135 : Nat → Int32 := upd sf u_123.2.1.toNatClampNeg r_4
    let signMany_136 : Int32 := u_123.2.1 + 1
    lpX8_reads_26 fNw N op 1 go at_134 fl u_123.1 signMany_136 u_123.2.2 fSg_135)
    else (
    if 1000 ≤ sf ((u_123.2.1 - 1).toNatClampNeg) then (
    let at_138 : Int32 := u_3 + 1
    let fSg_139 : Nat → Int32 := upd sf u_123.2.1.toNatClampNeg r_4
    let signMany_140 : Int32 := u_123.2.1 + 1
    lpX8_reads_26 fNw N op 1 go at_138 fl u_123.1 signMany_140 u_123.2.2 fSg_139)
    else (
    let r_142 : Int32 := fX8_rank (sf ((u_123.2.1 - 1).toNatClampNeg))
    if r_142 = 3 then (
    let fault_148 : Int32 := (10 * u_3) + 1
    lpX8_reads_26 fNw N op wa go u_3 fault_148 u_123.1 u_123.2.1 u_123.2.2 sf)
    else (
    let at_145 : Int32 := u_3 + 1
    let fSg_146 : Nat → Int32 := upd sf u_123.2.1.toNatClampNeg r_4
    let signMany_147 : Int32 := u_123.2.1 + 1
    lpX8_reads_26 fNw N op 1 go at_145 fl u_123.1 signMany_147 u_123.2.2 fSg_146))))
    else (
    let at_130 : Int32 := u_3 + 1
    let fSg_131 : Nat → Int32 := upd sf u_123.2.1.toNatClampNeg r_4
    let signMany_132 : Int32 := u_123.2.1 + 1
    lpX8_reads_26 fNw N op 1 go at_130 fl u_123.1 signMany_132 u_123.2.2 fSg_131))
    else (
    let r_95 : Int32 := fX8_rank r_4
    let u_97 : Int32 × Int32 × (Nat → Int64) := fX8_workDown r_95 vn sm vf sf
    let r_101 : Int32 := fX8_rank r_4
    if r_101 = 3 then (
    if u_97.2.1 ≤ 0 then (
    let at_108 : Int32 := u_3 + 1
    let fSg_109 : Nat → Int32 := upd sf u_97.2.1.toNatClampNeg r_4
    let signMany_110 : Int32 := u_97.2.1 + 1
    lpX8_reads_26 fNw N op 1 go at_108 fl u_97.1 signMany_110 u_97.2.2 fSg_109)
    else (
    if 1000 ≤ sf ((u_97.2.1 - 1).toNatClampNeg) then (
    let at_112 : Int32 := u_3 + 1
    let fSg_113 : Nat → Int32 := upd sf u_97.2.1.toNatClampNeg r_4
    let signMany_114 : Int32 := u_97.2.1 + 1
    lpX8_reads_26 fNw N op 1 go at_112 fl u_97.1 signMany_114 u_97.2.2 fSg_113)
    else (
    let r_116 : Int32 := fX8_rank (sf ((u_97.2.1 - 1).toNatClampNeg))
    if r_116 = 3 then (
    let fault_122 : Int32 := (10 * u_3) + 1
    lpX8_reads_26 fNw N op wa go u_3 fault_122 u_97.1 u_97.2.1 u_97.2.2 sf)
    else (
    let at_119 : Int32 := u_3 + 1
    let fSg_120 : Nat → Int32 := upd sf u_97.2.1.toNatClampNeg r_4
    let signMany_121 : Int32 := u_97.2.1 + 1
    lpX8_reads_26 fNw N op 1 go at_119 fl u_97.1 signMany_121 u_97.2.2 fSg_120))))
    else (
    let at_104 : Int32 := u_3 + 1
    let fSg_105 : Nat → Int32 := upd sf u_97.2.1.toNatClampNeg r_4
    let signMany_106 : Int32 := u_97.2.1 + 1
    lpX8_reads_26 fNw N op 1 go at_104 fl u_97.1 signMany_106 u_97.2.2 fSg_105))))
    else (
    let at_149 : Int32 := u_3 + 1
    let u_150 : Int32 × Int32 × (Nat → Int64) := fX8_workDown 1 vn sm vf sf
    let signMany_153 : Int32 := u_150.2.1 - 1
    let valueMany_154 : Int32 := u_150.1 - 1
    let u_155 : Int32 × Int32 × (Nat → Int64) := fX8_stands (u_150.2.2 valueMany_154.toNatClampNeg) valueMany_154 signMany_153 u_150.2.2 sf
    lpX8_reads_26 fNw N (op + (-1)) wa go at_149 fl u_155.1 u_155.2.1 u_155.2.2 sf))
    else (
    let r_9 : Int32 := fX8_rank r_4
    if r_9 ≤ 0 then (
    if r_4 = (-1) then (
    if op = 0 then (
    let u_16 : Int32 × Int32 × (Nat → Int64) := fX8_workDown 1 vn sm vf sf
    lpX8_reads_26 fNw N op wa 0 u_3 fl u_16.1 u_16.2.1 u_16.2.2 sf)
    else (
    let fault_15 : Int32 := (10 * u_3) + 1
    lpX8_reads_26 fNw N op wa go u_3 fault_15 vn sm vf sf))
    else (
    let fault_13 : Int32 := (10 * u_3) + 1
    lpX8_reads_26 fNw N op wa go u_3 fault_13 vn sm vf sf))
    else (
    let r_20 : Int32 := fX8_rank r_4
    if r_20 = 3 then (
    let u_52 : Int32 × Int32 × (Nat → Int64) := fX8_workDown 4 vn sm vf sf
    let r_56 : Int32 := fX8_rank r_4
    if r_56 = 3 then (
    if u_52.2.1 ≤ 0 then (
    let at_63 : Int32 := u_3 + 1
    let fSg_64 : Nat → Int32 := upd sf u_52.2.1.toNatClampNeg r_4
    let signMany_65 : Int32 := u_52.2.1 + 1
    lpX8_reads_26 fNw N op 1 go at_63 fl u_52.1 signMany_65 u_52.2.2 fSg_64)
    else (
    if 1000 ≤ sf ((u_52.2.1 - 1).toNatClampNeg) then (
    let at_67 : Int32 := u_3 + 1
    let fSg_68 : Nat → Int32 := upd sf u_52.2.1.toNatClampNeg r_4
    let signMany_69 : Int32 := u_52.2.1 + 1
    lpX8_reads_26 fNw N op 1 go at_67 fl u_52.1 signMany_69 u_52.2.2 fSg_68)
    else (
    let r_71 : Int32 := fX8_rank (sf ((u_52.2.1 - 1).toNatClampNeg))
    if r_71 = 3 then (
    let fault_77 : Int32 := (10 * u_3) + 1
    lpX8_reads_26 fNw N op wa go u_3 fault_77 u_52.1 u_52.2.1 u_52.2.2 sf)
    else (
    let at_74 : Int32 := u_3 + 1
    let fSg_75 : Nat → Int32 := upd sf u_52.2.1.toNatClampNeg r_4
    let signMany_76 : Int32 := u_52.2.1 + 1
    lpX8_reads_26 fNw N op 1 go at_74 fl u_52.1 signMany_76 u_52.2.2 fSg_75))))
    else (
    let at_59 : Int32 := u_3 + 1
    let fSg_60 : Nat → Int32 := upd sf u_52.2.1.toNatClampNeg r_4
    let signMany_61 : Int32 := u_52.2.1 + 1
    lpX8_reads_26 fNw N op 1 go at_59 fl u_52.1 signMany_61 u_52.2.2 fSg_60))
    else (
    let r_24 : Int32 := fX8_rank r_4
    let u_26 : Int32 × Int32 × (Nat → Int64) := fX8_workDown r_24 vn sm vf sf
    let r_30 : Int32 := fX8_rank r_4
    if r_30 = 3 then (
    if u_26.2.1 ≤ 0 then (
    let at_37 : Int32 := u_3 + 1
    let fSg_38 : Nat → Int32 := upd sf u_26.2.1.toNatClampNeg r_4
    let signMany_39 : Int32 := u_26.2.1 + 1
    lpX8_reads_26 fNw N op 1 go at_37 fl u_26.1 signMany_39 u_26.2.2 fSg_38)
    else (
    if 1000 ≤ sf ((u_26.2.1 - 1).toNatClampNeg) then (
    let at_41 : Int32 := u_3 + 1
    let fSg_42 : Nat → Int32 := upd sf u_26.2.1.toNatClampNeg r_4
    let signMany_43 : Int32 := u_26.2.1 + 1
    lpX8_reads_26 fNw N op 1 go at_41 fl u_26.1 signMany_43 u_26.2.2 fSg_42)
    else (
    let r_45 : Int32 := fX8_rank (sf ((u_26.2.1 - 1).toNatClampNeg))
    if r_45 = 3 then (
    let fault_51 : Int32 := (10 * u_3) + 1
    lpX8_reads_26 fNw N op wa go u_3 fault_51 u_26.1 u_26.2.1 u_26.2.2 sf)
    else (
    let at_48 : Int32 := u_3 + 1
    let fSg_49 : Nat → Int32 := upd sf u_26.2.1.toNatClampNeg r_4
    let signMany_50 : Int32 := u_26.2.1 + 1
    lpX8_reads_26 fNw N op 1 go at_48 fl u_26.1 signMany_50 u_26.2.2 fSg_49))))
    else (
    let at_33 : Int32 := u_3 + 1
    let fSg_34 : Nat → Int32 := upd sf u_26.2.1.toNatClampNeg r_4
    let signMany_35 : Int32 := u_26.2.1 + 1
    lpX8_reads_26 fNw N op 1 go at_33 fl u_26.1 signMany_35 u_26.2.2 fSg_34)))))
    else (
    let r_159 : Int32 := fX8_in r_4.toInt64 48 57
    if r_159 = 0 then (
    let r_163 : Int32 := fX8_nameOf r_4
    if r_163 = (-1) then (
    if r_4 = 33 then (
    let at_167 : Int32 := u_3 + 1
    if r_4 = 33 then (
    let fSg_171 : Nat → Int32 := upd sf sm.toNatClampNeg 1001
    let signMany_172 : Int32 := sm + 1
    lpX8_reads_26 fNw N op wa go at_167 fl vn signMany_172 vf fSg_171)
    else (
    let fSg_169 : Nat → Int32 := upd sf sm.toNatClampNeg 1002
    let signMany_170 : Int32 := sm + 1
    lpX8_reads_26 fNw N op wa go at_167 fl vn signMany_170 vf fSg_169))
    else (
    if r_4 = 45 then (
    let at_185 : Int32 := u_3 + 1
    if r_4 = 33 then (
    let fSg_189 : Nat → Int32 := upd sf sm.toNatClampNeg 1001
    let signMany_190 : Int32 := sm + 1
    lpX8_reads_26 fNw N op wa go at_185 fl vn signMany_190 vf fSg_189)
    else (
    let fSg_187 : Nat → Int32 := upd sf sm.toNatClampNeg 1002
    let signMany_188 : Int32 := sm + 1
    lpX8_reads_26 fNw N op wa go at_185 fl vn signMany_188 vf fSg_187))
    else (
    if r_4 = 40 then (
    if 8 ≤ op then (
    if r_4 = 40 then (
    let fault_181 : Int32 := (10 * u_3) + 3
    lpX8_reads_26 fNw N op wa go u_3 fault_181 vn sm vf sf)
    else (
    let fault_180 : Int32 := (10 * u_3) + 1
    lpX8_reads_26 fNw N op wa go u_3 fault_180 vn sm vf sf))
    else (
    let at_182 : Int32 := u_3 + 1
    let fSg_183 : Nat → Int32 := upd sf sm.toNatClampNeg 1000
    let signMany_184 : Int32 := sm + 1
    lpX8_reads_26 fNw N (op + 1) wa go at_182 fl vn signMany_184 vf fSg_183))
    else (
    if r_4 = 40 then (
    let fault_177 : Int32 := (10 * u_3) + 3
    lpX8_reads_26 fNw N op wa go u_3 fault_177 vn sm vf sf)
    else (
    let fault_176 : Int32 := (10 * u_3) + 1
    lpX8_reads_26 fNw N op wa go u_3 fault_176 vn sm vf sf)))))
    else (
    let at_191 : Int32 := u_3 + 1
    let r_193 : Int32 := fX8_nameOf r_4
    let u_195 : Int32 × Int32 × (Nat → Int64) := fX8_stands (fNw r_193.toNatClampNeg) vn sm vf sf
    lpX8_reads_26 fNw N op 0 go at_191 fl u_195.1 u_195.2.1 u_195.2.2 sf))
    else (
    let r_199 : Int64 := (fX8_digits u_3 fl fNw).1
    let u_198 : Int32 × Int32 := (fX8_digits u_3 fl fNw).2
    let u_201 : Int32 × Int32 × (Nat → Int64) := fX8_stands r_199 vn sm vf sf
    lpX8_reads_26 fNw N op 0 go u_198.1 u_198.2 u_201.1 u_201.2.1 u_201.2.2 sf)))
    else (
    (op, wa, go, at_, fl, vn, sm, vf, sf)))

def fX8_reads (fNw : Nat → Int64) (fVs : Nat → Int64) (fSg : Nat → Int32) : Int32 × Int32 × Int32 × Int32 × Int32 × Int64 × (Nat → Int64) × (Nat → Int32) :=
  let z_12 : Int32 × Int32 × Int32 × Int32 × Int32 × Int32 × Int32 × (Nat → Int64) × (Nat → Int32) := lpX8_reads_26 fNw (63) 0 1 1 0 (-1) 0 0 fVs fSg
  if z_12.2.2.2.2.1 = (-1) then (
    let tells_15 : Int64 := z_12.2.2.2.2.2.2.2.1 0
    if z_12.2.2.2.2.1 = (-1) then (
      (1, z_12.2.2.2.1, z_12.2.2.2.2.1, z_12.2.2.2.2.2.1, z_12.2.2.2.2.2.2.1, tells_15, z_12.2.2.2.2.2.2.2.1, z_12.2.2.2.2.2.2.2.2))
    else (
      (0, z_12.2.2.2.1, z_12.2.2.2.2.1, z_12.2.2.2.2.2.1, z_12.2.2.2.2.2.2.1, tells_15, z_12.2.2.2.2.2.2.2.1, z_12.2.2.2.2.2.2.2.2)))
  else (
    if z_12.2.2.2.2.1 = (-1) then (
      (1, z_12.2.2.2.1, z_12.2.2.2.2.1, z_12.2.2.2.2.2.1, z_12.2.2.2.2.2.2.1, 0, z_12.2.2.2.2.2.2.2.1, z_12.2.2.2.2.2.2.2.2))
    else (
      (0, z_12.2.2.2.1, z_12.2.2.2.2.1, z_12.2.2.2.2.2.1, z_12.2.2.2.2.2.2.1, 0, z_12.2.2.2.2.2.2.2.1, z_12.2.2.2.2.2.2.2.2)))

set_option maxHeartbeats 4000000 in
set_option maxRecDepth 100000 in
theorem c_X8_reads (l : Launch) (G : va_G) (aM aNw aVs aSg rM_kept rM_isKept rM_refused rM_was : Nat) (cNw cVs cSg : ClassId) (M_at : Int32) (M_fault : Int32) (M_valueMany : Int32) (M_signMany : Int32) (M_tells : Int64) (M_way : Int32) (M_wish : Int32) (M_moreTick : Int64) (M_moreForce : Int64) (M_runTurns : Int32) (M_runFirst : Int64) (M_runLast : Int64) (M_peak : Int64) (M_beside : Int64) (M_besideAt : Int32) (fNw : Nat → Int64) (fVs : Nat → Int64) (fSg : Nat → Int32) (l0 : 0 ≤ (fNw 61).toInt32.toInt) (l1 : (fNw 61).toInt32.toInt ≤ 60) : kCi l yX8_reads (Cond.code yX8_reads cX8_reads 5 (some .boolean) :: wsL_law) ({ frames := 2, cells := 0, slots := 0, locals := 48 }) G [(cNw, .long), (cVs, .long), (cSg, .int)] [.ref aM] [(aM, .inr (8, [.ref aNw, .ref rM_kept, .ref rM_isKept, .ref rM_refused, .int M_at, .int M_fault, .ref aVs, .int M_valueMany, .ref aSg, .int M_signMany, .long M_tells, .int M_way, .int M_wish, .long M_moreTick, .long M_moreForce, .int M_runTurns, .long M_runFirst, .long M_runLast, .ref rM_was, .long M_peak, .long M_beside, .int M_besideAt])), (aNw, .inl (cNw, 139, .inr (.inl fNw))), (aVs, .inl (cVs, 64, .inr (.inl fVs))), (aSg, .inl (cSg, 128, .inl fSg))] (fun (r : Int32) (u : Int32 × Int32 × Int32 × Int32 × Int64 × (Nat → Int64) × (Nat → Int32)) => r = (fX8_reads fNw fVs fSg).1 ∧ u = (fX8_reads fNw fVs fSg).2 ∧ (r = 0 ∨ r = 1)) (fun (u : Int32 × Int32 × Int32 × Int32 × Int64 × (Nat → Int64) × (Nat → Int32)) => [(aM, .inr (8, [.ref aNw, .ref rM_kept, .ref rM_isKept, .ref rM_refused, .int u.1, .int u.2.1, .ref aVs, .int u.2.2.1, .ref aSg, .int u.2.2.2.1, .long u.2.2.2.2.1, .int M_way, .int M_wish, .long M_moreTick, .long M_moreForce, .int M_runTurns, .long M_runFirst, .long M_runLast, .ref rM_was, .long M_peak, .long M_beside, .int M_besideAt])), (aNw, .inl (cNw, 139, .inr (.inl fNw))), (aVs, .inl (cVs, 64, .inr (.inl u.2.2.2.2.2.1))), (aSg, .inl (cSg, 128, .inl u.2.2.2.2.2.2))]) := by
  intro sz
  refine Met.ofW (cc := cX8_reads) (maxL := 5) (ret := (some .boolean)) (by decide) rfl ?_
  intro p e s m args below meth c s₁ B hml hv
  obtain ⟨rfl, hv⟩ := hv
  obtain ⟨rfl, hK, hq, hA⟩ := kk_begin hv
  have hx := B.exec
  have hb := B.bytes
  have hr := B.returns
  have hts := atoms_spec (ws := (Cond.code yX8_reads cX8_reads 5 (some .boolean) :: wsL_law)) B.pre
  have hown : s.vm.findClass RX8 = some m.cls := findClass_of_methodNamed B.named
  have hlocks := B.notSynchronized
  have hsb : ∀ w ∈ wsL_law, w ∈ (Cond.code yX8_reads cX8_reads 5 (some .boolean) :: wsL_law) := fun _ h => List.mem_cons_of_mem _ h
  generalize va_A [(aM, .inr (8, [.ref aNw, .ref rM_kept, .ref rM_isKept, .ref rM_refused, .int M_at, .int M_fault, .ref aVs, .int M_valueMany, .ref aSg, .int M_signMany, .long M_tells, .int M_way, .int M_wish, .long M_moreTick, .long M_moreForce, .int M_runTurns, .long M_runFirst, .long M_runLast, .ref rM_was, .long M_peak, .long M_beside, .int M_besideAt])), (aNw, .inl (cNw, 139, .inr (.inl fNw))), (aVs, .inl (cVs, 64, .inr (.inl fVs))), (aSg, .inl (cSg, 128, .inl fSg))] s.heap.size = A at hq hA ⊢
  have iX8 : ∀ w ∈ u_ws RX8 TX8 22, w ∈ (Cond.code yX8_reads cX8_reads 5 (some .boolean) :: wsL_law) := fun w h => hsb w (bin_X8 w h)
  have lk0_ := hts _ (hsb _ wd_291)
  have lk1_ := hts _ (hsb _ wd_286)
  have lk2_ := hts _ (hsb _ wd_292)
  have lk3_ := hts _ (hsb _ wd_293)
  have lk4_ := hts _ (hsb _ wd_122)
  have lk5_ := hts _ (hsb _ wd_121)
  have lk6_ := hts _ (hsb _ wd_294)
  have lk7_ := hts _ (hsb _ wd_295)
  have lk8_ := hts _ (hsb _ wd_117)
  have lk9_ := hts _ (hsb _ wd_296)
  have hl := lv_entry ([.ref aM]) (n := 5) (Nat.le_of_ble_eq_true rfl)
  rw [lg_entry_eq]
  generalize (lg_sl ([.ref aM]) ++ List.replicate (5 - (lg_sl ([.ref aM])).length) Slot.unset).toArray = ls at hl ⊢
  have hl : lv_has ls 5 [(0, .ref aM)] := hl
  refine lv_aload_n hx hb dX8_reads_0 rfl (lv_at hl 0 rfl) ?_
  refine lv_iconst (v := 0) hx hb dX8_reads_1 (by decide) ?_
  refine kk_put (ws' := [(aM, .inr (8, [.ref aNw, .ref rM_kept, .ref rM_isKept, .ref rM_refused, .int 0, .int M_fault, .ref aVs, .int M_valueMany, .ref aSg, .int M_signMany, .long M_tells, .int M_way, .int M_wish, .long M_moreTick, .long M_moreForce, .int M_runTurns, .long M_runFirst, .long M_runLast, .ref rM_was, .long M_peak, .long M_beside, .int M_besideAt])), (aNw, .inl (cNw, 139, .inr (.inl fNw))), (aVs, .inl (cVs, 64, .inr (.inl fVs))), (aSg, .inl (cSg, 128, .inl fSg))]) (ci := 8) (v := .int 0) (C := RX8) (T := TX8) (N := 22) hx hb hts iX8 tyX8_ok nmX8 hown hK hq 0 rfl rfl 4 (by decide) lk0_ rfl rfl rfl (Nat.le_of_ble_eq_true rfl) dX8_reads_2 rfl (fun H locs hq => ?_)
  refine lv_aload_n hx hb dX8_reads_5 rfl (lv_at hl 0 rfl) ?_
  refine lv_iconst (v := -1) hx hb dX8_reads_6 (by decide) ?_
  refine kk_put (ws' := [(aM, .inr (8, [.ref aNw, .ref rM_kept, .ref rM_isKept, .ref rM_refused, .int 0, .int (-1), .ref aVs, .int M_valueMany, .ref aSg, .int M_signMany, .long M_tells, .int M_way, .int M_wish, .long M_moreTick, .long M_moreForce, .int M_runTurns, .long M_runFirst, .long M_runLast, .ref rM_was, .long M_peak, .long M_beside, .int M_besideAt])), (aNw, .inl (cNw, 139, .inr (.inl fNw))), (aVs, .inl (cVs, 64, .inr (.inl fVs))), (aSg, .inl (cSg, 128, .inl fSg))]) (ci := 8) (v := .int (-1)) (C := RX8) (T := TX8) (N := 22) hx hb hts iX8 tyX8_ok nmX8 hown hK hq 0 rfl rfl 5 (by decide) lk1_ rfl rfl rfl (Nat.le_of_ble_eq_true rfl) dX8_reads_7 rfl (fun H locs hq => ?_)
  refine lv_aload_n hx hb dX8_reads_10 rfl (lv_at hl 0 rfl) ?_
  refine lv_iconst (v := 0) hx hb dX8_reads_11 (by decide) ?_
  refine kk_put (ws' := [(aM, .inr (8, [.ref aNw, .ref rM_kept, .ref rM_isKept, .ref rM_refused, .int 0, .int (-1), .ref aVs, .int 0, .ref aSg, .int M_signMany, .long M_tells, .int M_way, .int M_wish, .long M_moreTick, .long M_moreForce, .int M_runTurns, .long M_runFirst, .long M_runLast, .ref rM_was, .long M_peak, .long M_beside, .int M_besideAt])), (aNw, .inl (cNw, 139, .inr (.inl fNw))), (aVs, .inl (cVs, 64, .inr (.inl fVs))), (aSg, .inl (cSg, 128, .inl fSg))]) (ci := 8) (v := .int 0) (C := RX8) (T := TX8) (N := 22) hx hb hts iX8 tyX8_ok nmX8 hown hK hq 0 rfl rfl 7 (by decide) lk2_ rfl rfl rfl (Nat.le_of_ble_eq_true rfl) dX8_reads_12 rfl (fun H locs hq => ?_)
  refine lv_aload_n hx hb dX8_reads_15 rfl (lv_at hl 0 rfl) ?_
  refine lv_iconst (v := 0) hx hb dX8_reads_16 (by decide) ?_
  refine kk_put (ws' := [(aM, .inr (8, [.ref aNw, .ref rM_kept, .ref rM_isKept, .ref rM_refused, .int 0, .int (-1), .ref aVs, .int 0, .ref aSg, .int 0, .long M_tells, .int M_way, .int M_wish, .long M_moreTick, .long M_moreForce, .int M_runTurns, .long M_runFirst, .long M_runLast, .ref rM_was, .long M_peak, .long M_beside, .int M_besideAt])), (aNw, .inl (cNw, 139, .inr (.inl fNw))), (aVs, .inl (cVs, 64, .inr (.inl fVs))), (aSg, .inl (cSg, 128, .inl fSg))]) (ci := 8) (v := .int 0) (C := RX8) (T := TX8) (N := 22) hx hb hts iX8 tyX8_ok nmX8 hown hK hq 0 rfl rfl 9 (by decide) lk3_ rfl rfl rfl (Nat.le_of_ble_eq_true rfl) dX8_reads_17 rfl (fun H locs hq => ?_)
  refine lv_iconst (v := 0) hx hb dX8_reads_20 (by decide) ?_
  refine lv_istore_n (lv' := [(1, .int 0), (0, .ref aM)]) hx hb dX8_reads_21 rfl hl (by decide) rfl (fun ls hl => ?_)
  refine lv_iconst (v := 1) hx hb dX8_reads_22 (by decide) ?_
  refine lv_istore_n (lv' := [(2, .int 1), (1, .int 0), (0, .ref aM)]) hx hb dX8_reads_23 rfl hl (by decide) rfl (fun ls hl => ?_)
  refine lv_iconst (v := 1) hx hb dX8_reads_24 (by decide) ?_
  refine lv_istore_n (lv' := [(3, .int 1), (2, .int 1), (1, .int 0), (0, .ref aM)]) hx hb dX8_reads_25 rfl hl (by decide) rfl (fun ls hl => ?_)
  refine kk_loop9 (fun N26 (op : Int32) (wa : Int32) (go : Int32) (at_ : Int32) (fl : Int32) (vn : Int32) (sm : Int32) (vf : Nat → Int64) (sf : Nat → Int32) (H : Heap) (locs : List Loc) (ls : Array Slot) => lpX8_reads_26 fNw (63) 0 1 1 0 (-1) 0 0 fVs fSg = lpX8_reads_26 fNw N26 op wa go at_ fl vn sm vf sf ∧ (RI_ at_ sm vn op wa sf) ∧ (0 ≤ at_.toInt) ∧ (1 ≤ N26 ∧ (go = 0 ∨ fl ≠ -1 ∨ 62 ≤ at_.toInt + N26)) ∧ lv_has ls 5 [(3, .int go), (2, .int wa), (1, .int op), (0, .ref aM)] ∧ kAt G A s [(aM, .inr (8, [.ref aNw, .ref rM_kept, .ref rM_isKept, .ref rM_refused, .int at_, .int fl, .ref aVs, .int vn, .ref aSg, .int sm, .long M_tells, .int M_way, .int M_wish, .long M_moreTick, .long M_moreForce, .int M_runTurns, .long M_runFirst, .long M_runLast, .ref rM_was, .long M_peak, .long M_beside, .int M_besideAt])), (aNw, .inl (cNw, 139, .inr (.inl fNw))), (aVs, .inl (cVs, 64, .inr (.inl vf))), (aSg, .inl (cSg, 128, .inl sf))] H locs) 26 (fun op wa go at_ fl vn sm vf sf => []) (fun op wa go at_ fl vn sm vf sf H locs ls hv => ?_) (fun N26 op wa go at_ fl vn sm vf sf H locs ls ih26 hv => ?_) (63) 0 1 1 0 (-1) 0 0 fVs fSg _ _ _ ⟨rfl, (RI_0 _), (by decide), (by decide), lv_sub hl [0, 1, 2, 3] rfl, hq⟩
  · skip
    obtain ⟨hrel26, ri, q0, hN, hl, hq⟩ := hv
    exact absurd hN.1 (by decide)
  · skip
    obtain ⟨hrel26, ri, q0, hN, hl, hq⟩ := hv
    have q1 : at_.toInt ≤ 60 := ri.2.2.1
    have rv := RI_v ri
    have s0 : 0 ≤ sm.toInt := ri.1
    have s1 : sm.toInt ≤ 100 := by omega
    have v0 : 0 ≤ vn.toInt := rv.1
    have v1 : vn.toInt < 64 := by omega
    have v2 : vn.toInt ≤ 64 := by omega
    have sm8 : sm.toInt < (128 : Nat) := by omega
    refine lv_iload_n hx hb dX8_reads_26 rfl (lv_at hl 0 rfl) ?_
    refine lv_if_eq (tgt := 488) hx hb dX8_reads_27 (by decide) (fun c_1 => ?_) (fun c_1 => ?_)
    · skip
      have hst_3 : lpX8_reads_26 fNw (N26 + 1) op wa go at_ fl vn sm vf sf = ((op, wa, go, at_, fl, vn, sm, vf, sf) : Int32 × Int32 × Int32 × Int32 × Int32 × Int32 × Int32 × (Nat → Int64) × (Nat → Int32)) := by
        exact (if_pos c_1).trans (rfl)
      have hx_2 : ((op, wa, go, at_, fl, vn, sm, vf, sf) : Int32 × Int32 × Int32 × Int32 × Int32 × Int32 × Int32 × (Nat → Int64) × (Nat → Int32)) = lpX8_reads_26 fNw (63) 0 1 1 0 (-1) 0 0 fVs fSg := (hrel26.trans (hst_3)).symm
      obtain ⟨z_4, gz_4⟩ : ∃ z : Int32 × Int32 × Int32 × Int32 × Int32 × Int32 × Int32 × (Nat → Int64) × (Nat → Int32), z = (op, wa, go, at_, fl, vn, sm, vf, sf) := ⟨_, rfl⟩
      have ez_4 : z_4 = lpX8_reads_26 fNw (63) 0 1 1 0 (-1) 0 0 fVs fSg := gz_4.trans hx_2
      have hl : lv_has ls 5 [(3, .int z_4.2.2.1), (2, .int z_4.2.1), (1, .int z_4.1), (0, .ref aM)] := by subst gz_4; exact hl
      have hq : kAt G A s [(aM, .inr (8, [.ref aNw, .ref rM_kept, .ref rM_isKept, .ref rM_refused, .int z_4.2.2.2.1, .int z_4.2.2.2.2.1, .ref aVs, .int z_4.2.2.2.2.2.1, .ref aSg, .int z_4.2.2.2.2.2.2.1, .long M_tells, .int M_way, .int M_wish, .long M_moreTick, .long M_moreForce, .int M_runTurns, .long M_runFirst, .long M_runLast, .ref rM_was, .long M_peak, .long M_beside, .int M_besideAt])), (aNw, .inl (cNw, 139, .inr (.inl fNw))), (aVs, .inl (cVs, 64, .inr (.inl z_4.2.2.2.2.2.2.2.1))), (aSg, .inl (cSg, 128, .inl z_4.2.2.2.2.2.2.2.2))] H locs := by subst gz_4; exact hq
      refine lv_aload_n hx hb dX8_reads_488 rfl (lv_at hl 3 rfl) ?_
      refine lv_aload_n hx hb dX8_reads_489 rfl (lv_at hl 3 rfl) ?_
      refine kk_get (ci := 8) (v := .int z_4.2.2.2.2.1) (C := RX8) (T := TX8) (N := 22) hx hb hts iX8 hown hK hq 0 rfl rfl 5 (by decide) lk1_ rfl dX8_reads_490 ?_
      refine lv_iconst (v := -1) hx hb dX8_reads_493 (by decide) ?_
      refine lv_icmp_ne (tgt := 506) hx hb dX8_reads_494 (by decide) (fun c_5 => ?_) (fun c_5 => ?_)
      · skip
        refine lv_lconst (v := 0) hx hb dX8_reads_506 (by decide) ?_
        refine kk_put (ws' := [(aM, .inr (8, [.ref aNw, .ref rM_kept, .ref rM_isKept, .ref rM_refused, .int z_4.2.2.2.1, .int z_4.2.2.2.2.1, .ref aVs, .int z_4.2.2.2.2.2.1, .ref aSg, .int z_4.2.2.2.2.2.2.1, .long 0, .int M_way, .int M_wish, .long M_moreTick, .long M_moreForce, .int M_runTurns, .long M_runFirst, .long M_runLast, .ref rM_was, .long M_peak, .long M_beside, .int M_besideAt])), (aNw, .inl (cNw, 139, .inr (.inl fNw))), (aVs, .inl (cVs, 64, .inr (.inl z_4.2.2.2.2.2.2.2.1))), (aSg, .inl (cSg, 128, .inl z_4.2.2.2.2.2.2.2.2))]) (ci := 8) (v := .long 0) (C := RX8) (T := TX8) (N := 22) hx hb hts iX8 tyX8_ok nmX8 hown hK hq 0 rfl rfl 10 (by decide) lk9_ rfl rfl rfl (Nat.le_of_ble_eq_true rfl) dX8_reads_507 rfl (fun H locs hq => ?_)
        refine lv_aload_n hx hb dX8_reads_510 rfl (lv_at hl 3 rfl) ?_
        refine kk_get (ci := 8) (v := .int z_4.2.2.2.2.1) (C := RX8) (T := TX8) (N := 22) hx hb hts iX8 hown hK hq 0 rfl rfl 5 (by decide) lk1_ rfl dX8_reads_511 ?_
        refine lv_iconst (v := -1) hx hb dX8_reads_514 (by decide) ?_
        refine lv_icmp_ne (tgt := 522) hx hb dX8_reads_515 (by decide) (fun c_6 => ?_) (fun c_6 => ?_)
        · skip
          refine lv_iconst (v := 0) hx hb dX8_reads_522 (by decide) ?_
          have hf : ((0, z_4.2.2.2.1, z_4.2.2.2.2.1, z_4.2.2.2.2.2.1, z_4.2.2.2.2.2.2.1, 0, z_4.2.2.2.2.2.2.2.1, z_4.2.2.2.2.2.2.2.2) : Int32 × Int32 × Int32 × Int32 × Int32 × Int64 × (Nat → Int64) × (Nat → Int32)) = fX8_reads fNw fVs fSg := by
            exact ((congrArg (fun (z_4 : Int32 × Int32 × Int32 × Int32 × Int32 × Int32 × Int32 × (Nat → Int64) × (Nat → Int32)) => ((if z_4.2.2.2.2.1 = (-1) then (
    let tells_15 : Int64 := z_4.2.2.2.2.2.2.2.1 0
    if z_4.2.2.2.2.1 = (-1) then (
      (1, z_4.2.2.2.1, z_4.2.2.2.2.1, z_4.2.2.2.2.2.1, z_4.2.2.2.2.2.2.1, tells_15, z_4.2.2.2.2.2.2.2.1, z_4.2.2.2.2.2.2.2.2))
    else (
      (0, z_4.2.2.2.1, z_4.2.2.2.2.1, z_4.2.2.2.2.2.1, z_4.2.2.2.2.2.2.1, tells_15, z_4.2.2.2.2.2.2.2.1, z_4.2.2.2.2.2.2.2.2)))
  else (
    if z_4.2.2.2.2.1 = (-1) then (
      (1, z_4.2.2.2.1, z_4.2.2.2.2.1, z_4.2.2.2.2.2.1, z_4.2.2.2.2.2.2.1, 0, z_4.2.2.2.2.2.2.2.1, z_4.2.2.2.2.2.2.2.2))
    else (
      (0, z_4.2.2.2.1, z_4.2.2.2.2.1, z_4.2.2.2.2.2.1, z_4.2.2.2.2.2.2.1, 0, z_4.2.2.2.2.2.2.2.1, z_4.2.2.2.2.2.2.2.2)))) : Int32 × Int32 × Int32 × Int32 × Int32 × Int64 × (Nat → Int64) × (Nat → Int32))) ez_4.symm).trans ((if_neg c_5).trans ((if_neg c_6)))).symm
          have hf1 := congrArg Prod.fst hf
          have hf2 := congrArg Prod.snd hf
          have hz : (0 : Int32) = 0 ∨ (0 : Int32) = 1 := Or.inl rfl
          exact kk_ez hx hb hr hlocks hz hK hq [0, 1, 2, 3] (z_4.2.2.2.1, z_4.2.2.2.2.1, z_4.2.2.2.2.2.1, z_4.2.2.2.2.2.2.1, 0, z_4.2.2.2.2.2.2.2.1, z_4.2.2.2.2.2.2.2.2) rfl (by decide) dX8_reads_523 ⟨hf1, hf2, hz⟩
        · skip
          refine lv_iconst (v := 1) hx hb dX8_reads_518 (by decide) ?_
          refine lv_goto (tgt := 523) hx hb dX8_reads_519 (by decide) ?_
          have hf : ((1, z_4.2.2.2.1, z_4.2.2.2.2.1, z_4.2.2.2.2.2.1, z_4.2.2.2.2.2.2.1, 0, z_4.2.2.2.2.2.2.2.1, z_4.2.2.2.2.2.2.2.2) : Int32 × Int32 × Int32 × Int32 × Int32 × Int64 × (Nat → Int64) × (Nat → Int32)) = fX8_reads fNw fVs fSg := by
            exact ((congrArg (fun (z_4 : Int32 × Int32 × Int32 × Int32 × Int32 × Int32 × Int32 × (Nat → Int64) × (Nat → Int32)) => ((if z_4.2.2.2.2.1 = (-1) then (
    let tells_15 : Int64 := z_4.2.2.2.2.2.2.2.1 0
    if z_4.2.2.2.2.1 = (-1) then (
      (1, z_4.2.2.2.1, z_4.2.2.2.2.1, z_4.2.2.2.2.2.1, z_4.2.2.2.2.2.2.1, tells_15, z_4.2.2.2.2.2.2.2.1, z_4.2.2.2.2.2.2.2.2))
    else (
      (0, z_4.2.2.2.1, z_4.2.2.2.2.1, z_4.2.2.2.2.2.1, z_4.2.2.2.2.2.2.1, tells_15, z_4.2.2.2.2.2.2.2.1, z_4.2.2.2.2.2.2.2.2)))
  else (
    if z_4.2.2.2.2.1 = (-1) then (
      (1, z_4.2.2.2.1, z_4.2.2.2.2.1, z_4.2.2.2.2.2.1, z_4.2.2.2.2.2.2.1, 0, z_4.2.2.2.2.2.2.2.1, z_4.2.2.2.2.2.2.2.2))
    else (
      (0, z_4.2.2.2.1, z_4.2.2.2.2.1, z_4.2.2.2.2.2.1, z_4.2.2.2.2.2.2.1, 0, z_4.2.2.2.2.2.2.2.1, z_4.2.2.2.2.2.2.2.2)))) : Int32 × Int32 × Int32 × Int32 × Int32 × Int64 × (Nat → Int64) × (Nat → Int32))) ez_4.symm).trans ((if_neg c_5).trans ((if_pos c_6)))).symm
          have hf1 := congrArg Prod.fst hf
          have hf2 := congrArg Prod.snd hf
          have hz : (1 : Int32) = 0 ∨ (1 : Int32) = 1 := Or.inr rfl
          exact kk_ez hx hb hr hlocks hz hK hq [0, 1, 2, 3] (z_4.2.2.2.1, z_4.2.2.2.2.1, z_4.2.2.2.2.2.1, z_4.2.2.2.2.2.2.1, 0, z_4.2.2.2.2.2.2.2.1, z_4.2.2.2.2.2.2.2.2) rfl (by decide) dX8_reads_523 ⟨hf1, hf2, hz⟩
      · skip
        refine lv_aload_n hx hb dX8_reads_497 rfl (lv_at hl 3 rfl) ?_
        refine kk_get (ci := 8) (v := .ref aVs) (C := RX8) (T := TX8) (N := 22) hx hb hts iX8 hown hK hq 0 rfl rfl 6 (by decide) lk5_ rfl dX8_reads_498 ?_
        refine lv_iconst (v := 0) hx hb dX8_reads_501 (by decide) ?_
        refine kk_lald hx hb hK hq 2 1 rfl rfl 0 rfl (by decide) (by decide) dX8_reads_502 ?_
        refine lv_goto (tgt := 507) hx hb dX8_reads_503 (by decide) ?_
        refine lv_topl (fun tells_7 etells_7 => ?_)
        refine kk_put (ws' := [(aM, .inr (8, [.ref aNw, .ref rM_kept, .ref rM_isKept, .ref rM_refused, .int z_4.2.2.2.1, .int z_4.2.2.2.2.1, .ref aVs, .int z_4.2.2.2.2.2.1, .ref aSg, .int z_4.2.2.2.2.2.2.1, .long tells_7, .int M_way, .int M_wish, .long M_moreTick, .long M_moreForce, .int M_runTurns, .long M_runFirst, .long M_runLast, .ref rM_was, .long M_peak, .long M_beside, .int M_besideAt])), (aNw, .inl (cNw, 139, .inr (.inl fNw))), (aVs, .inl (cVs, 64, .inr (.inl z_4.2.2.2.2.2.2.2.1))), (aSg, .inl (cSg, 128, .inl z_4.2.2.2.2.2.2.2.2))]) (ci := 8) (v := .long tells_7) (C := RX8) (T := TX8) (N := 22) hx hb hts iX8 tyX8_ok nmX8 hown hK hq 0 rfl rfl 10 (by decide) lk9_ rfl rfl rfl (Nat.le_of_ble_eq_true rfl) dX8_reads_507 rfl (fun H locs hq => ?_)
        refine lv_aload_n hx hb dX8_reads_510 rfl (lv_at hl 3 rfl) ?_
        refine kk_get (ci := 8) (v := .int z_4.2.2.2.2.1) (C := RX8) (T := TX8) (N := 22) hx hb hts iX8 hown hK hq 0 rfl rfl 5 (by decide) lk1_ rfl dX8_reads_511 ?_
        refine lv_iconst (v := -1) hx hb dX8_reads_514 (by decide) ?_
        refine lv_icmp_ne (tgt := 522) hx hb dX8_reads_515 (by decide) (fun c_8 => ?_) (fun c_8 => ?_)
        · skip
          refine lv_iconst (v := 0) hx hb dX8_reads_522 (by decide) ?_
          have hf : ((0, z_4.2.2.2.1, z_4.2.2.2.2.1, z_4.2.2.2.2.2.1, z_4.2.2.2.2.2.2.1, tells_7, z_4.2.2.2.2.2.2.2.1, z_4.2.2.2.2.2.2.2.2) : Int32 × Int32 × Int32 × Int32 × Int32 × Int64 × (Nat → Int64) × (Nat → Int32)) = fX8_reads fNw fVs fSg := by
            exact ((congrArg (fun (z_4 : Int32 × Int32 × Int32 × Int32 × Int32 × Int32 × Int32 × (Nat → Int64) × (Nat → Int32)) => ((if z_4.2.2.2.2.1 = (-1) then (
    let tells_15 : Int64 := z_4.2.2.2.2.2.2.2.1 0
    if z_4.2.2.2.2.1 = (-1) then (
      (1, z_4.2.2.2.1, z_4.2.2.2.2.1, z_4.2.2.2.2.2.1, z_4.2.2.2.2.2.2.1, tells_15, z_4.2.2.2.2.2.2.2.1, z_4.2.2.2.2.2.2.2.2))
    else (
      (0, z_4.2.2.2.1, z_4.2.2.2.2.1, z_4.2.2.2.2.2.1, z_4.2.2.2.2.2.2.1, tells_15, z_4.2.2.2.2.2.2.2.1, z_4.2.2.2.2.2.2.2.2)))
  else (
    if z_4.2.2.2.2.1 = (-1) then (
      (1, z_4.2.2.2.1, z_4.2.2.2.2.1, z_4.2.2.2.2.2.1, z_4.2.2.2.2.2.2.1, 0, z_4.2.2.2.2.2.2.2.1, z_4.2.2.2.2.2.2.2.2))
    else (
      (0, z_4.2.2.2.1, z_4.2.2.2.2.1, z_4.2.2.2.2.2.1, z_4.2.2.2.2.2.2.1, 0, z_4.2.2.2.2.2.2.2.1, z_4.2.2.2.2.2.2.2.2)))) : Int32 × Int32 × Int32 × Int32 × Int32 × Int64 × (Nat → Int64) × (Nat → Int32))) ez_4.symm).trans ((if_pos c_5).trans ((congrArg (fun (tells_7 : Int64) => ((if z_4.2.2.2.2.1 = (-1) then (
    (1, z_4.2.2.2.1, z_4.2.2.2.2.1, z_4.2.2.2.2.2.1, z_4.2.2.2.2.2.2.1, tells_7, z_4.2.2.2.2.2.2.2.1, z_4.2.2.2.2.2.2.2.2))
  else (
    (0, z_4.2.2.2.1, z_4.2.2.2.2.1, z_4.2.2.2.2.2.1, z_4.2.2.2.2.2.2.1, tells_7, z_4.2.2.2.2.2.2.2.1, z_4.2.2.2.2.2.2.2.2))) : Int32 × Int32 × Int32 × Int32 × Int32 × Int64 × (Nat → Int64) × (Nat → Int32))) etells_7.symm).trans ((if_neg c_8))))).symm
          have hf1 := congrArg Prod.fst hf
          have hf2 := congrArg Prod.snd hf
          have hz : (0 : Int32) = 0 ∨ (0 : Int32) = 1 := Or.inl rfl
          exact kk_ez hx hb hr hlocks hz hK hq [0, 1, 2, 3] (z_4.2.2.2.1, z_4.2.2.2.2.1, z_4.2.2.2.2.2.1, z_4.2.2.2.2.2.2.1, tells_7, z_4.2.2.2.2.2.2.2.1, z_4.2.2.2.2.2.2.2.2) rfl (by decide) dX8_reads_523 ⟨hf1, hf2, hz⟩
        · skip
          refine lv_iconst (v := 1) hx hb dX8_reads_518 (by decide) ?_
          refine lv_goto (tgt := 523) hx hb dX8_reads_519 (by decide) ?_
          have hf : ((1, z_4.2.2.2.1, z_4.2.2.2.2.1, z_4.2.2.2.2.2.1, z_4.2.2.2.2.2.2.1, tells_7, z_4.2.2.2.2.2.2.2.1, z_4.2.2.2.2.2.2.2.2) : Int32 × Int32 × Int32 × Int32 × Int32 × Int64 × (Nat → Int64) × (Nat → Int32)) = fX8_reads fNw fVs fSg := by
            exact ((congrArg (fun (z_4 : Int32 × Int32 × Int32 × Int32 × Int32 × Int32 × Int32 × (Nat → Int64) × (Nat → Int32)) => ((if z_4.2.2.2.2.1 = (-1) then (
    let tells_15 : Int64 := z_4.2.2.2.2.2.2.2.1 0
    if z_4.2.2.2.2.1 = (-1) then (
      (1, z_4.2.2.2.1, z_4.2.2.2.2.1, z_4.2.2.2.2.2.1, z_4.2.2.2.2.2.2.1, tells_15, z_4.2.2.2.2.2.2.2.1, z_4.2.2.2.2.2.2.2.2))
    else (
      (0, z_4.2.2.2.1, z_4.2.2.2.2.1, z_4.2.2.2.2.2.1, z_4.2.2.2.2.2.2.1, tells_15, z_4.2.2.2.2.2.2.2.1, z_4.2.2.2.2.2.2.2.2)))
  else (
    if z_4.2.2.2.2.1 = (-1) then (
      (1, z_4.2.2.2.1, z_4.2.2.2.2.1, z_4.2.2.2.2.2.1, z_4.2.2.2.2.2.2.1, 0, z_4.2.2.2.2.2.2.2.1, z_4.2.2.2.2.2.2.2.2))
    else (
      (0, z_4.2.2.2.1, z_4.2.2.2.2.1, z_4.2.2.2.2.2.1, z_4.2.2.2.2.2.2.1, 0, z_4.2.2.2.2.2.2.2.1, z_4.2.2.2.2.2.2.2.2)))) : Int32 × Int32 × Int32 × Int32 × Int32 × Int64 × (Nat → Int64) × (Nat → Int32))) ez_4.symm).trans ((if_pos c_5).trans ((congrArg (fun (tells_7 : Int64) => ((if z_4.2.2.2.2.1 = (-1) then (
    (1, z_4.2.2.2.1, z_4.2.2.2.2.1, z_4.2.2.2.2.2.1, z_4.2.2.2.2.2.2.1, tells_7, z_4.2.2.2.2.2.2.2.1, z_4.2.2.2.2.2.2.2.2))
  else (
    (0, z_4.2.2.2.1, z_4.2.2.2.2.1, z_4.2.2.2.2.2.1, z_4.2.2.2.2.2.2.1, tells_7, z_4.2.2.2.2.2.2.2.1, z_4.2.2.2.2.2.2.2.2))) : Int32 × Int32 × Int32 × Int32 × Int32 × Int64 × (Nat → Int64) × (Nat → Int32))) etells_7.symm).trans ((if_pos c_8))))).symm
          have hf1 := congrArg Prod.fst hf
          have hf2 := congrArg Prod.snd hf
          have hz : (1 : Int32) = 0 ∨ (1 : Int32) = 1 := Or.inr rfl
          exact kk_ez hx hb hr hlocks hz hK hq [0, 1, 2, 3] (z_4.2.2.2.1, z_4.2.2.2.2.1, z_4.2.2.2.2.2.1, z_4.2.2.2.2.2.2.1, tells_7, z_4.2.2.2.2.2.2.2.1, z_4.2.2.2.2.2.2.2.2) rfl (by decide) dX8_reads_523 ⟨hf1, hf2, hz⟩
    · skip
      have hgo := c_1
      refine lv_aload_n hx hb dX8_reads_30 rfl (lv_at hl 3 rfl) ?_
      refine kk_get (ci := 8) (v := .int fl) (C := RX8) (T := TX8) (N := 22) hx hb hts iX8 hown hK hq 0 rfl rfl 5 (by decide) lk1_ rfl dX8_reads_31 ?_
      refine lv_iconst (v := -1) hx hb dX8_reads_34 (by decide) ?_
      refine lv_icmp_ne (tgt := 488) hx hb dX8_reads_35 (by decide) (fun c_9 => ?_) (fun c_9 => ?_)
      · skip
        have hst_11 : lpX8_reads_26 fNw (N26 + 1) op wa go at_ fl vn sm vf sf = ((op, wa, go, at_, fl, vn, sm, vf, sf) : Int32 × Int32 × Int32 × Int32 × Int32 × Int32 × Int32 × (Nat → Int64) × (Nat → Int32)) := by
          exact (if_neg c_1).trans ((if_neg c_9).trans (rfl))
        have hx_10 : ((op, wa, go, at_, fl, vn, sm, vf, sf) : Int32 × Int32 × Int32 × Int32 × Int32 × Int32 × Int32 × (Nat → Int64) × (Nat → Int32)) = lpX8_reads_26 fNw (63) 0 1 1 0 (-1) 0 0 fVs fSg := (hrel26.trans (hst_11)).symm
        obtain ⟨z_12, gz_12⟩ : ∃ z : Int32 × Int32 × Int32 × Int32 × Int32 × Int32 × Int32 × (Nat → Int64) × (Nat → Int32), z = (op, wa, go, at_, fl, vn, sm, vf, sf) := ⟨_, rfl⟩
        have ez_12 : z_12 = lpX8_reads_26 fNw (63) 0 1 1 0 (-1) 0 0 fVs fSg := gz_12.trans hx_10
        have hl : lv_has ls 5 [(3, .int z_12.2.2.1), (2, .int z_12.2.1), (1, .int z_12.1), (0, .ref aM)] := by subst gz_12; exact hl
        have hq : kAt G A s [(aM, .inr (8, [.ref aNw, .ref rM_kept, .ref rM_isKept, .ref rM_refused, .int z_12.2.2.2.1, .int z_12.2.2.2.2.1, .ref aVs, .int z_12.2.2.2.2.2.1, .ref aSg, .int z_12.2.2.2.2.2.2.1, .long M_tells, .int M_way, .int M_wish, .long M_moreTick, .long M_moreForce, .int M_runTurns, .long M_runFirst, .long M_runLast, .ref rM_was, .long M_peak, .long M_beside, .int M_besideAt])), (aNw, .inl (cNw, 139, .inr (.inl fNw))), (aVs, .inl (cVs, 64, .inr (.inl z_12.2.2.2.2.2.2.2.1))), (aSg, .inl (cSg, 128, .inl z_12.2.2.2.2.2.2.2.2))] H locs := by subst gz_12; exact hq
        refine lv_aload_n hx hb dX8_reads_488 rfl (lv_at hl 3 rfl) ?_
        refine lv_aload_n hx hb dX8_reads_489 rfl (lv_at hl 3 rfl) ?_
        refine kk_get (ci := 8) (v := .int z_12.2.2.2.2.1) (C := RX8) (T := TX8) (N := 22) hx hb hts iX8 hown hK hq 0 rfl rfl 5 (by decide) lk1_ rfl dX8_reads_490 ?_
        refine lv_iconst (v := -1) hx hb dX8_reads_493 (by decide) ?_
        refine lv_icmp_ne (tgt := 506) hx hb dX8_reads_494 (by decide) (fun c_13 => ?_) (fun c_13 => ?_)
        · skip
          refine lv_lconst (v := 0) hx hb dX8_reads_506 (by decide) ?_
          refine kk_put (ws' := [(aM, .inr (8, [.ref aNw, .ref rM_kept, .ref rM_isKept, .ref rM_refused, .int z_12.2.2.2.1, .int z_12.2.2.2.2.1, .ref aVs, .int z_12.2.2.2.2.2.1, .ref aSg, .int z_12.2.2.2.2.2.2.1, .long 0, .int M_way, .int M_wish, .long M_moreTick, .long M_moreForce, .int M_runTurns, .long M_runFirst, .long M_runLast, .ref rM_was, .long M_peak, .long M_beside, .int M_besideAt])), (aNw, .inl (cNw, 139, .inr (.inl fNw))), (aVs, .inl (cVs, 64, .inr (.inl z_12.2.2.2.2.2.2.2.1))), (aSg, .inl (cSg, 128, .inl z_12.2.2.2.2.2.2.2.2))]) (ci := 8) (v := .long 0) (C := RX8) (T := TX8) (N := 22) hx hb hts iX8 tyX8_ok nmX8 hown hK hq 0 rfl rfl 10 (by decide) lk9_ rfl rfl rfl (Nat.le_of_ble_eq_true rfl) dX8_reads_507 rfl (fun H locs hq => ?_)
          refine lv_aload_n hx hb dX8_reads_510 rfl (lv_at hl 3 rfl) ?_
          refine kk_get (ci := 8) (v := .int z_12.2.2.2.2.1) (C := RX8) (T := TX8) (N := 22) hx hb hts iX8 hown hK hq 0 rfl rfl 5 (by decide) lk1_ rfl dX8_reads_511 ?_
          refine lv_iconst (v := -1) hx hb dX8_reads_514 (by decide) ?_
          refine lv_icmp_ne (tgt := 522) hx hb dX8_reads_515 (by decide) (fun c_14 => ?_) (fun c_14 => ?_)
          · skip
            refine lv_iconst (v := 0) hx hb dX8_reads_522 (by decide) ?_
            have hf : ((0, z_12.2.2.2.1, z_12.2.2.2.2.1, z_12.2.2.2.2.2.1, z_12.2.2.2.2.2.2.1, 0, z_12.2.2.2.2.2.2.2.1, z_12.2.2.2.2.2.2.2.2) : Int32 × Int32 × Int32 × Int32 × Int32 × Int64 × (Nat → Int64) × (Nat → Int32)) = fX8_reads fNw fVs fSg := by
              exact ((congrArg (fun (z_12 : Int32 × Int32 × Int32 × Int32 × Int32 × Int32 × Int32 × (Nat → Int64) × (Nat → Int32)) => ((if z_12.2.2.2.2.1 = (-1) then (
    let tells_15 : Int64 := z_12.2.2.2.2.2.2.2.1 0
    if z_12.2.2.2.2.1 = (-1) then (
      (1, z_12.2.2.2.1, z_12.2.2.2.2.1, z_12.2.2.2.2.2.1, z_12.2.2.2.2.2.2.1, tells_15, z_12.2.2.2.2.2.2.2.1, z_12.2.2.2.2.2.2.2.2))
    else (
      (0, z_12.2.2.2.1, z_12.2.2.2.2.1, z_12.2.2.2.2.2.1, z_12.2.2.2.2.2.2.1, tells_15, z_12.2.2.2.2.2.2.2.1, z_12.2.2.2.2.2.2.2.2)))
  else (
    if z_12.2.2.2.2.1 = (-1) then (
      (1, z_12.2.2.2.1, z_12.2.2.2.2.1, z_12.2.2.2.2.2.1, z_12.2.2.2.2.2.2.1, 0, z_12.2.2.2.2.2.2.2.1, z_12.2.2.2.2.2.2.2.2))
    else (
      (0, z_12.2.2.2.1, z_12.2.2.2.2.1, z_12.2.2.2.2.2.1, z_12.2.2.2.2.2.2.1, 0, z_12.2.2.2.2.2.2.2.1, z_12.2.2.2.2.2.2.2.2)))) : Int32 × Int32 × Int32 × Int32 × Int32 × Int64 × (Nat → Int64) × (Nat → Int32))) ez_12.symm).trans ((if_neg c_13).trans ((if_neg c_14)))).symm
            have hf1 := congrArg Prod.fst hf
            have hf2 := congrArg Prod.snd hf
            have hz : (0 : Int32) = 0 ∨ (0 : Int32) = 1 := Or.inl rfl
            exact kk_ez hx hb hr hlocks hz hK hq [0, 1, 2, 3] (z_12.2.2.2.1, z_12.2.2.2.2.1, z_12.2.2.2.2.2.1, z_12.2.2.2.2.2.2.1, 0, z_12.2.2.2.2.2.2.2.1, z_12.2.2.2.2.2.2.2.2) rfl (by decide) dX8_reads_523 ⟨hf1, hf2, hz⟩
          · skip
            refine lv_iconst (v := 1) hx hb dX8_reads_518 (by decide) ?_
            refine lv_goto (tgt := 523) hx hb dX8_reads_519 (by decide) ?_
            have hf : ((1, z_12.2.2.2.1, z_12.2.2.2.2.1, z_12.2.2.2.2.2.1, z_12.2.2.2.2.2.2.1, 0, z_12.2.2.2.2.2.2.2.1, z_12.2.2.2.2.2.2.2.2) : Int32 × Int32 × Int32 × Int32 × Int32 × Int64 × (Nat → Int64) × (Nat → Int32)) = fX8_reads fNw fVs fSg := by
              exact ((congrArg (fun (z_12 : Int32 × Int32 × Int32 × Int32 × Int32 × Int32 × Int32 × (Nat → Int64) × (Nat → Int32)) => ((if z_12.2.2.2.2.1 = (-1) then (
    let tells_15 : Int64 := z_12.2.2.2.2.2.2.2.1 0
    if z_12.2.2.2.2.1 = (-1) then (
      (1, z_12.2.2.2.1, z_12.2.2.2.2.1, z_12.2.2.2.2.2.1, z_12.2.2.2.2.2.2.1, tells_15, z_12.2.2.2.2.2.2.2.1, z_12.2.2.2.2.2.2.2.2))
    else (
      (0, z_12.2.2.2.1, z_12.2.2.2.2.1, z_12.2.2.2.2.2.1, z_12.2.2.2.2.2.2.1, tells_15, z_12.2.2.2.2.2.2.2.1, z_12.2.2.2.2.2.2.2.2)))
  else (
    if z_12.2.2.2.2.1 = (-1) then (
      (1, z_12.2.2.2.1, z_12.2.2.2.2.1, z_12.2.2.2.2.2.1, z_12.2.2.2.2.2.2.1, 0, z_12.2.2.2.2.2.2.2.1, z_12.2.2.2.2.2.2.2.2))
    else (
      (0, z_12.2.2.2.1, z_12.2.2.2.2.1, z_12.2.2.2.2.2.1, z_12.2.2.2.2.2.2.1, 0, z_12.2.2.2.2.2.2.2.1, z_12.2.2.2.2.2.2.2.2)))) : Int32 × Int32 × Int32 × Int32 × Int32 × Int64 × (Nat → Int64) × (Nat → Int32))) ez_12.symm).trans ((if_neg c_13).trans ((if_pos c_14)))).symm
            have hf1 := congrArg Prod.fst hf
            have hf2 := congrArg Prod.snd hf
            have hz : (1 : Int32) = 0 ∨ (1 : Int32) = 1 := Or.inr rfl
            exact kk_ez hx hb hr hlocks hz hK hq [0, 1, 2, 3] (z_12.2.2.2.1, z_12.2.2.2.2.1, z_12.2.2.2.2.2.1, z_12.2.2.2.2.2.2.1, 0, z_12.2.2.2.2.2.2.2.1, z_12.2.2.2.2.2.2.2.2) rfl (by decide) dX8_reads_523 ⟨hf1, hf2, hz⟩
        · skip
          refine lv_aload_n hx hb dX8_reads_497 rfl (lv_at hl 3 rfl) ?_
          refine kk_get (ci := 8) (v := .ref aVs) (C := RX8) (T := TX8) (N := 22) hx hb hts iX8 hown hK hq 0 rfl rfl 6 (by decide) lk5_ rfl dX8_reads_498 ?_
          refine lv_iconst (v := 0) hx hb dX8_reads_501 (by decide) ?_
          refine kk_lald hx hb hK hq 2 1 rfl rfl 0 rfl (by decide) (by decide) dX8_reads_502 ?_
          refine lv_goto (tgt := 507) hx hb dX8_reads_503 (by decide) ?_
          refine lv_topl (fun tells_15 etells_15 => ?_)
          refine kk_put (ws' := [(aM, .inr (8, [.ref aNw, .ref rM_kept, .ref rM_isKept, .ref rM_refused, .int z_12.2.2.2.1, .int z_12.2.2.2.2.1, .ref aVs, .int z_12.2.2.2.2.2.1, .ref aSg, .int z_12.2.2.2.2.2.2.1, .long tells_15, .int M_way, .int M_wish, .long M_moreTick, .long M_moreForce, .int M_runTurns, .long M_runFirst, .long M_runLast, .ref rM_was, .long M_peak, .long M_beside, .int M_besideAt])), (aNw, .inl (cNw, 139, .inr (.inl fNw))), (aVs, .inl (cVs, 64, .inr (.inl z_12.2.2.2.2.2.2.2.1))), (aSg, .inl (cSg, 128, .inl z_12.2.2.2.2.2.2.2.2))]) (ci := 8) (v := .long tells_15) (C := RX8) (T := TX8) (N := 22) hx hb hts iX8 tyX8_ok nmX8 hown hK hq 0 rfl rfl 10 (by decide) lk9_ rfl rfl rfl (Nat.le_of_ble_eq_true rfl) dX8_reads_507 rfl (fun H locs hq => ?_)
          refine lv_aload_n hx hb dX8_reads_510 rfl (lv_at hl 3 rfl) ?_
          refine kk_get (ci := 8) (v := .int z_12.2.2.2.2.1) (C := RX8) (T := TX8) (N := 22) hx hb hts iX8 hown hK hq 0 rfl rfl 5 (by decide) lk1_ rfl dX8_reads_511 ?_
          refine lv_iconst (v := -1) hx hb dX8_reads_514 (by decide) ?_
          refine lv_icmp_ne (tgt := 522) hx hb dX8_reads_515 (by decide) (fun c_16 => ?_) (fun c_16 => ?_)
          · skip
            refine lv_iconst (v := 0) hx hb dX8_reads_522 (by decide) ?_
            have hf : ((0, z_12.2.2.2.1, z_12.2.2.2.2.1, z_12.2.2.2.2.2.1, z_12.2.2.2.2.2.2.1, tells_15, z_12.2.2.2.2.2.2.2.1, z_12.2.2.2.2.2.2.2.2) : Int32 × Int32 × Int32 × Int32 × Int32 × Int64 × (Nat → Int64) × (Nat → Int32)) = fX8_reads fNw fVs fSg := by
              exact ((congrArg (fun (z_12 : Int32 × Int32 × Int32 × Int32 × Int32 × Int32 × Int32 × (Nat → Int64) × (Nat → Int32)) => ((if z_12.2.2.2.2.1 = (-1) then (
    let tells_15 : Int64 := z_12.2.2.2.2.2.2.2.1 0
    if z_12.2.2.2.2.1 = (-1) then (
      (1, z_12.2.2.2.1, z_12.2.2.2.2.1, z_12.2.2.2.2.2.1, z_12.2.2.2.2.2.2.1, tells_15, z_12.2.2.2.2.2.2.2.1, z_12.2.2.2.2.2.2.2.2))
    else (
      (0, z_12.2.2.2.1, z_12.2.2.2.2.1, z_12.2.2.2.2.2.1, z_12.2.2.2.2.2.2.1, tells_15, z_12.2.2.2.2.2.2.2.1, z_12.2.2.2.2.2.2.2.2)))
  else (
    if z_12.2.2.2.2.1 = (-1) then (
      (1, z_12.2.2.2.1, z_12.2.2.2.2.1, z_12.2.2.2.2.2.1, z_12.2.2.2.2.2.2.1, 0, z_12.2.2.2.2.2.2.2.1, z_12.2.2.2.2.2.2.2.2))
    else (
      (0, z_12.2.2.2.1, z_12.2.2.2.2.1, z_12.2.2.2.2.2.1, z_12.2.2.2.2.2.2.1, 0, z_12.2.2.2.2.2.2.2.1, z_12.2.2.2.2.2.2.2.2)))) : Int32 × Int32 × Int32 × Int32 × Int32 × Int64 × (Nat → Int64) × (Nat → Int32))) ez_12.symm).trans ((if_pos c_13).trans ((congrArg (fun (tells_15 : Int64) => ((if z_12.2.2.2.2.1 = (-1) then (
    (1, z_12.2.2.2.1, z_12.2.2.2.2.1, z_12.2.2.2.2.2.1, z_12.2.2.2.2.2.2.1, tells_15, z_12.2.2.2.2.2.2.2.1, z_12.2.2.2.2.2.2.2.2))
  else (
    (0, z_12.2.2.2.1, z_12.2.2.2.2.1, z_12.2.2.2.2.2.1, z_12.2.2.2.2.2.2.1, tells_15, z_12.2.2.2.2.2.2.2.1, z_12.2.2.2.2.2.2.2.2))) : Int32 × Int32 × Int32 × Int32 × Int32 × Int64 × (Nat → Int64) × (Nat → Int32))) etells_15.symm).trans ((if_neg c_16))))).symm
            have hf1 := congrArg Prod.fst hf
            have hf2 := congrArg Prod.snd hf
            have hz : (0 : Int32) = 0 ∨ (0 : Int32) = 1 := Or.inl rfl
            exact kk_ez hx hb hr hlocks hz hK hq [0, 1, 2, 3] (z_12.2.2.2.1, z_12.2.2.2.2.1, z_12.2.2.2.2.2.1, z_12.2.2.2.2.2.2.1, tells_15, z_12.2.2.2.2.2.2.2.1, z_12.2.2.2.2.2.2.2.2) rfl (by decide) dX8_reads_523 ⟨hf1, hf2, hz⟩
          · skip
            refine lv_iconst (v := 1) hx hb dX8_reads_518 (by decide) ?_
            refine lv_goto (tgt := 523) hx hb dX8_reads_519 (by decide) ?_
            have hf : ((1, z_12.2.2.2.1, z_12.2.2.2.2.1, z_12.2.2.2.2.2.1, z_12.2.2.2.2.2.2.1, tells_15, z_12.2.2.2.2.2.2.2.1, z_12.2.2.2.2.2.2.2.2) : Int32 × Int32 × Int32 × Int32 × Int32 × Int64 × (Nat → Int64) × (Nat → Int32)) = fX8_reads fNw fVs fSg := by
              exact ((congrArg (fun (z_12 : Int32 × Int32 × Int32 × Int32 × Int32 × Int32 × Int32 × (Nat → Int64) × (Nat → Int32)) => ((if z_12.2.2.2.2.1 = (-1) then (
    let tells_15 : Int64 := z_12.2.2.2.2.2.2.2.1 0
    if z_12.2.2.2.2.1 = (-1) then (
      (1, z_12.2.2.2.1, z_12.2.2.2.2.1, z_12.2.2.2.2.2.1, z_12.2.2.2.2.2.2.1, tells_15, z_12.2.2.2.2.2.2.2.1, z_12.2.2.2.2.2.2.2.2))
    else (
      (0, z_12.2.2.2.1, z_12.2.2.2.2.1, z_12.2.2.2.2.2.1, z_12.2.2.2.2.2.2.1, tells_15, z_12.2.2.2.2.2.2.2.1, z_12.2.2.2.2.2.2.2.2)))
  else (
    if z_12.2.2.2.2.1 = (-1) then (
      (1, z_12.2.2.2.1, z_12.2.2.2.2.1, z_12.2.2.2.2.2.1, z_12.2.2.2.2.2.2.1, 0, z_12.2.2.2.2.2.2.2.1, z_12.2.2.2.2.2.2.2.2))
    else (
      (0, z_12.2.2.2.1, z_12.2.2.2.2.1, z_12.2.2.2.2.2.1, z_12.2.2.2.2.2.2.1, 0, z_12.2.2.2.2.2.2.2.1, z_12.2.2.2.2.2.2.2.2)))) : Int32 × Int32 × Int32 × Int32 × Int32 × Int64 × (Nat → Int64) × (Nat → Int32))) ez_12.symm).trans ((if_pos c_13).trans ((congrArg (fun (tells_15 : Int64) => ((if z_12.2.2.2.2.1 = (-1) then (
    (1, z_12.2.2.2.1, z_12.2.2.2.2.1, z_12.2.2.2.2.2.1, z_12.2.2.2.2.2.2.1, tells_15, z_12.2.2.2.2.2.2.2.1, z_12.2.2.2.2.2.2.2.2))
  else (
    (0, z_12.2.2.2.1, z_12.2.2.2.2.1, z_12.2.2.2.2.2.1, z_12.2.2.2.2.2.2.1, tells_15, z_12.2.2.2.2.2.2.2.1, z_12.2.2.2.2.2.2.2.2))) : Int32 × Int32 × Int32 × Int32 × Int32 × Int64 × (Nat → Int64) × (Nat → Int32))) etells_15.symm).trans ((if_pos c_16))))).symm
            have hf1 := congrArg Prod.fst hf
            have hf2 := congrArg Prod.snd hf
            have hz : (1 : Int32) = 0 ∨ (1 : Int32) = 1 := Or.inr rfl
            exact kk_ez hx hb hr hlocks hz hK hq [0, 1, 2, 3] (z_12.2.2.2.1, z_12.2.2.2.2.1, z_12.2.2.2.2.2.1, z_12.2.2.2.2.2.2.1, tells_15, z_12.2.2.2.2.2.2.2.1, z_12.2.2.2.2.2.2.2.2) rfl (by decide) dX8_reads_523 ⟨hf1, hf2, hz⟩
      · skip
        have hfl := c_9
        have h62 : 62 ≤ at_.toInt + (N26 + 1 : Nat) := by rcases hN.2 with h | h | h; (· exact absurd h hgo); (· exact absurd hfl h); (· exact h)
        refine lv_aload_n hx hb dX8_reads_38 rfl (lv_at hl 3 rfl) ?_
        refine kk_Vi (As := []) (rest := []) (wr := [(aVs, .inl (cVs, 64, .inr (.inl vf))), (aSg, .inl (cSg, 128, .inl sf))]) ⟨hx, hb, hml, hown, hts⟩ (c_X8_ahead l G aM aNw rM_kept rM_isKept rM_refused aVs aSg rM_was cNw at_ fl vn sm M_tells M_way M_wish M_moreTick M_moreForce M_runTurns M_runFirst M_runLast M_peak M_beside M_besideAt fNw l0 l1 q0 q1) (kk_cwV 0 hts hsb wd_297 wd_298 wd_299 wd_5 wd_300 rfl rfl hd_X8_ahead ⟨Nat.le_of_ble_eq_true rfl, Nat.le_of_ble_eq_true rfl⟩) hA hK hq [0, 1] [2, 3] [0] rfl rfl rfl (by decide) (by decide) (by decide) 0 8 rfl rfl rfl rfl hl.1 rfl (Nat.le_of_ble_eq_true rfl) dX8_reads_39 ⟨Nat.zero_le _, Nat.zero_le _⟩ (fun r_18 u_17 H locs h_19 hq => ?_)
        obtain ⟨er_18, eu_17, q0_u_17, q1_u_17, nx_u_17, qm_u_17⟩ := h_19
        have hq : kAt G A s [(aVs, .inl (cVs, 64, .inr (.inl vf))), (aSg, .inl (cSg, 128, .inl sf)), (aM, .inr (8, [.ref aNw, .ref rM_kept, .ref rM_isKept, .ref rM_refused, .int u_17, .int fl, .ref aVs, .int vn, .ref aSg, .int sm, .long M_tells, .int M_way, .int M_wish, .long M_moreTick, .long M_moreForce, .int M_runTurns, .long M_runFirst, .long M_runLast, .ref rM_was, .long M_peak, .long M_beside, .int M_besideAt])), (aNw, .inl (cNw, 139, .inr (.inl fNw)))] H locs := hq
        have nx := nx_u_17
        have ri := RI_at ri qm_u_17 q1_u_17
        have qm := qm_u_17
        have u0 := q0_u_17
        have u1 := q1_u_17
        refine lv_istore (lv' := [(4, .int r_18), (3, .int go), (2, .int wa), (1, .int op), (0, .ref aM)]) hx hb dX8_reads_42 hl (by decide) rfl (fun ls hl => ?_)
        refine lv_iload_n hx hb dX8_reads_44 rfl (lv_at hl 2 rfl) ?_
        refine lv_if_eq (tgt := 254) hx hb dX8_reads_45 (by decide) (fun c_20 => ?_) (fun c_20 => ?_)
        · skip
          have hwa0 := c_20
          have ri0 := ri
          rw [c_20] at ri0
          have hvb := RI_vb ri0
          refine lv_iload hx hb dX8_reads_254 (lv_at hl 0 rfl) ?_
          refine lv_bipush (v := 41) hx hb dX8_reads_256 (by decide) ?_
          refine lv_icmp_ne (tgt := 319) hx hb dX8_reads_258 (by decide) (fun c_21 => ?_) (fun c_21 => ?_)
          · skip
            refine lv_iload hx hb dX8_reads_319 (lv_at hl 0 rfl) ?_
            refine kk_Si (As := [.int r_18]) (rest := []) (wr := [(aVs, .inl (cVs, 64, .inr (.inl vf))), (aSg, .inl (cSg, 128, .inl sf)), (aM, .inr (8, [.ref aNw, .ref rM_kept, .ref rM_isKept, .ref rM_refused, .int u_17, .int fl, .ref aVs, .int vn, .ref aSg, .int sm, .long M_tells, .int M_way, .int M_wish, .long M_moreTick, .long M_moreForce, .int M_runTurns, .long M_runFirst, .long M_runLast, .ref rM_was, .long M_peak, .long M_beside, .int M_besideAt])), (aNw, .inl (cNw, 139, .inr (.inl fNw)))]) ⟨hx, hb, hml, hown, hts⟩ (c_X8_rank l G r_18) (kk_cwS 1 hts hsb wd_321 wd_322 wd_5 wd_323 rfl rfl hd_X8_rank ⟨Nat.le_of_ble_eq_true rfl, Nat.le_of_ble_eq_true rfl⟩) hA hK hq [] [0, 1, 2, 3] [] rfl rfl rfl (by decide) (by decide) (by decide) rfl hl.1 rfl (Nat.le_of_ble_eq_true rfl) dX8_reads_321 ⟨Nat.zero_le _, Nat.zero_le _⟩ (fun r_23 u_22 H locs h_24 hq => ?_)
            have er_23 := h_24
            have hq : kAt G A s [(aVs, .inl (cVs, 64, .inr (.inl vf))), (aSg, .inl (cSg, 128, .inl sf)), (aM, .inr (8, [.ref aNw, .ref rM_kept, .ref rM_isKept, .ref rM_refused, .int u_17, .int fl, .ref aVs, .int vn, .ref aSg, .int sm, .long M_tells, .int M_way, .int M_wish, .long M_moreTick, .long M_moreForce, .int M_runTurns, .long M_runFirst, .long M_runLast, .ref rM_was, .long M_peak, .long M_beside, .int M_besideAt])), (aNw, .inl (cNw, 139, .inr (.inl fNw)))] H locs := hq
            have hr1 := er_23
            refine lv_if_le (tgt := 452) hx hb dX8_reads_324 (by decide) (fun c_25 => ?_) (fun c_25 => ?_)
            · skip
              refine lv_iload hx hb dX8_reads_452 (lv_at hl 0 rfl) ?_
              refine lv_iconst (v := -1) hx hb dX8_reads_454 (by decide) ?_
              refine lv_icmp_ne (tgt := 472) hx hb dX8_reads_455 (by decide) (fun c_26 => ?_) (fun c_26 => ?_)
              · skip
                refine lv_aload_n hx hb dX8_reads_472 rfl (lv_at hl 4 rfl) ?_
                refine lv_bipush (v := 10) hx hb dX8_reads_473 (by decide) ?_
                refine lv_aload_n hx hb dX8_reads_475 rfl (lv_at hl 4 rfl) ?_
                refine kk_get (ci := 8) (v := .int u_17) (C := RX8) (T := TX8) (N := 22) hx hb hts iX8 hown hK hq 2 rfl rfl 4 (by decide) lk0_ rfl dX8_reads_476 ?_
                refine lv_imul hx hb dX8_reads_479 ?_
                refine lv_iconst (v := 1) hx hb dX8_reads_480 (by decide) ?_
                refine lv_iadd hx hb dX8_reads_481 ?_
                refine lv_topi (fun fault_27 efault_27 => ?_)
                refine kk_put (ws' := [(aVs, .inl (cVs, 64, .inr (.inl vf))), (aSg, .inl (cSg, 128, .inl sf)), (aM, .inr (8, [.ref aNw, .ref rM_kept, .ref rM_isKept, .ref rM_refused, .int u_17, .int fault_27, .ref aVs, .int vn, .ref aSg, .int sm, .long M_tells, .int M_way, .int M_wish, .long M_moreTick, .long M_moreForce, .int M_runTurns, .long M_runFirst, .long M_runLast, .ref rM_was, .long M_peak, .long M_beside, .int M_besideAt])), (aNw, .inl (cNw, 139, .inr (.inl fNw)))]) (ci := 8) (v := .int fault_27) (C := RX8) (T := TX8) (N := 22) hx hb hts iX8 tyX8_ok nmX8 hown hK hq 2 rfl rfl 5 (by decide) lk1_ rfl rfl rfl (Nat.le_of_ble_eq_true rfl) dX8_reads_482 rfl (fun H locs hq => ?_)
                have hflt := fl_ne (k := 1) efault_27 u0 u1 (by decide) (by decide)
                refine lv_goto (tgt := 26) hx hb dX8_reads_485 (by decide) ?_
                have hst_28 : lpX8_reads_26 fNw (N26 + 1) op wa go at_ fl vn sm vf sf = lpX8_reads_26 fNw N26 op wa go u_17 fault_27 vn sm vf sf := by
                  subst efault_27 er_23 eu_17 er_18
                  exact (if_neg c_1).trans ((if_pos c_9).trans ((if_pos c_20).trans ((if_neg c_21).trans ((if_pos c_25).trans ((if_neg c_26).trans (rfl))))))
                exact ih26 op wa go u_17 fault_27 vn sm vf sf _ _ _ ⟨(hrel26.trans (hst_28)), (by assumption), (by omega), (by first | assumption | exact ⟨by omega, Or.inr (Or.inr (by omega))⟩ | exact ⟨by omega, Or.inr (Or.inl (by assumption))⟩ | exact ⟨by omega, Or.inl rfl⟩), lv_sub hl [1, 2, 3, 4] rfl, (kk_sub hq [2, 3, 0, 1] rfl (by decide))⟩
              · skip
                refine lv_iload_n hx hb dX8_reads_458 rfl (lv_at hl 3 rfl) ?_
                refine lv_if_ne (tgt := 472) hx hb dX8_reads_459 (by decide) (fun c_29 => ?_) (fun c_29 => ?_)
                · skip
                  refine lv_aload_n hx hb dX8_reads_472 rfl (lv_at hl 4 rfl) ?_
                  refine lv_bipush (v := 10) hx hb dX8_reads_473 (by decide) ?_
                  refine lv_aload_n hx hb dX8_reads_475 rfl (lv_at hl 4 rfl) ?_
                  refine kk_get (ci := 8) (v := .int u_17) (C := RX8) (T := TX8) (N := 22) hx hb hts iX8 hown hK hq 2 rfl rfl 4 (by decide) lk0_ rfl dX8_reads_476 ?_
                  refine lv_imul hx hb dX8_reads_479 ?_
                  refine lv_iconst (v := 1) hx hb dX8_reads_480 (by decide) ?_
                  refine lv_iadd hx hb dX8_reads_481 ?_
                  refine lv_topi (fun fault_30 efault_30 => ?_)
                  refine kk_put (ws' := [(aVs, .inl (cVs, 64, .inr (.inl vf))), (aSg, .inl (cSg, 128, .inl sf)), (aM, .inr (8, [.ref aNw, .ref rM_kept, .ref rM_isKept, .ref rM_refused, .int u_17, .int fault_30, .ref aVs, .int vn, .ref aSg, .int sm, .long M_tells, .int M_way, .int M_wish, .long M_moreTick, .long M_moreForce, .int M_runTurns, .long M_runFirst, .long M_runLast, .ref rM_was, .long M_peak, .long M_beside, .int M_besideAt])), (aNw, .inl (cNw, 139, .inr (.inl fNw)))]) (ci := 8) (v := .int fault_30) (C := RX8) (T := TX8) (N := 22) hx hb hts iX8 tyX8_ok nmX8 hown hK hq 2 rfl rfl 5 (by decide) lk1_ rfl rfl rfl (Nat.le_of_ble_eq_true rfl) dX8_reads_482 rfl (fun H locs hq => ?_)
                  have hflt := fl_ne (k := 1) efault_30 u0 u1 (by decide) (by decide)
                  refine lv_goto (tgt := 26) hx hb dX8_reads_485 (by decide) ?_
                  have hst_31 : lpX8_reads_26 fNw (N26 + 1) op wa go at_ fl vn sm vf sf = lpX8_reads_26 fNw N26 op wa go u_17 fault_30 vn sm vf sf := by
                    subst efault_30 er_23 eu_17 er_18
                    exact (if_neg c_1).trans ((if_pos c_9).trans ((if_pos c_20).trans ((if_neg c_21).trans ((if_pos c_25).trans ((if_pos c_26).trans ((if_neg c_29).trans (rfl)))))))
                  exact ih26 op wa go u_17 fault_30 vn sm vf sf _ _ _ ⟨(hrel26.trans (hst_31)), (by assumption), (by omega), (by first | assumption | exact ⟨by omega, Or.inr (Or.inr (by omega))⟩ | exact ⟨by omega, Or.inr (Or.inl (by assumption))⟩ | exact ⟨by omega, Or.inl rfl⟩), lv_sub hl [1, 2, 3, 4] rfl, (kk_sub hq [2, 3, 0, 1] rfl (by decide))⟩
                · skip
                  refine lv_aload_n hx hb dX8_reads_462 rfl (lv_at hl 4 rfl) ?_
                  refine lv_iconst (v := 1) hx hb dX8_reads_463 (by decide) ?_
                  refine kk_Vv (As := [.int 1]) (rest := []) (wr := [(aNw, .inl (cNw, 139, .inr (.inl fNw)))]) ⟨hx, hb, hml, hown, hts⟩ (c_X8_workDown l G aM aVs aSg aNw rM_kept rM_isKept rM_refused rM_was cVs cSg 1 u_17 fl vn sm M_tells M_way M_wish M_moreTick M_moreForce M_runTurns M_runFirst M_runLast M_peak M_beside M_besideAt vf sf s0 s1 hvb v2) (kk_cwV 1 hts hsb wd_317 wd_318 wd_319 wd_5 wd_320 rfl rfl hd_X8_workDown ⟨Nat.le_of_ble_eq_true rfl, Nat.le_of_ble_eq_true rfl⟩) hA hK hq [2, 0, 1] [3] [1, 2] rfl rfl rfl (by decide) (by decide) (by decide) 0 8 rfl rfl rfl rfl hl.1 rfl (Nat.le_of_ble_eq_true rfl) dX8_reads_464 ⟨Nat.zero_le _, Nat.zero_le _⟩ (fun u_32 H locs h_34 hq => ?_)
                  obtain ⟨eu_32, d0_u_32, d1_u_32, d2_u_32, d4_u_32, d5_u_32, d3_u_32⟩ := h_34
                  have hq : kAt G A s [(aNw, .inl (cNw, 139, .inr (.inl fNw))), (aM, .inr (8, [.ref aNw, .ref rM_kept, .ref rM_isKept, .ref rM_refused, .int u_17, .int fl, .ref aVs, .int u_32.1, .ref aSg, .int u_32.2.1, .long M_tells, .int M_way, .int M_wish, .long M_moreTick, .long M_moreForce, .int M_runTurns, .long M_runFirst, .long M_runLast, .ref rM_was, .long M_peak, .long M_beside, .int M_besideAt])), (aVs, .inl (cVs, 64, .inr (.inl u_32.2.2))), (aSg, .inl (cSg, 128, .inl sf))] H locs := hq
                  have riw := RI_wd ri0 d0_u_32 d1_u_32 d2_u_32 d4_u_32 d5_u_32
                  have riwa := RI_wa riw hwa0
                  refine lv_iconst (v := 0) hx hb dX8_reads_467 (by decide) ?_
                  refine lv_istore_n (lv' := [(3, .int 0), (4, .int r_18), (2, .int wa), (1, .int op), (0, .ref aM)]) hx hb dX8_reads_468 rfl hl (by decide) rfl (fun ls hl => ?_)
                  refine lv_goto (tgt := 485) hx hb dX8_reads_469 (by decide) ?_
                  refine lv_goto (tgt := 26) hx hb dX8_reads_485 (by decide) ?_
                  have hst_35 : lpX8_reads_26 fNw (N26 + 1) op wa go at_ fl vn sm vf sf = lpX8_reads_26 fNw N26 op wa 0 u_17 fl u_32.1 u_32.2.1 u_32.2.2 sf := by
                    subst eu_32 er_23 eu_17 er_18
                    exact (if_neg c_1).trans ((if_pos c_9).trans ((if_pos c_20).trans ((if_neg c_21).trans ((if_pos c_25).trans ((if_pos c_26).trans ((if_pos c_29).trans (rfl)))))))
                  exact ih26 op wa 0 u_17 fl u_32.1 u_32.2.1 u_32.2.2 sf _ _ _ ⟨(hrel26.trans (hst_35)), (by assumption), (by omega), (by first | assumption | exact ⟨by omega, Or.inr (Or.inr (by omega))⟩ | exact ⟨by omega, Or.inr (Or.inl (by assumption))⟩ | exact ⟨by omega, Or.inl rfl⟩), lv_sub hl [0, 2, 3, 4] rfl, (kk_sub hq [1, 0, 2, 3] rfl (by decide))⟩
            · skip
              have hrk := c_25
              rw [hr1] at hrk
              have rk := rank_k hrk
              have h60 := nx_lt nx rk.2.2 l1
              refine lv_aload_n hx hb dX8_reads_327 rfl (lv_at hl 4 rfl) ?_
              refine lv_iload hx hb dX8_reads_328 (lv_at hl 0 rfl) ?_
              refine kk_Si (As := [.int r_18]) (rest := [.ref aM]) (wr := [(aVs, .inl (cVs, 64, .inr (.inl vf))), (aSg, .inl (cSg, 128, .inl sf)), (aM, .inr (8, [.ref aNw, .ref rM_kept, .ref rM_isKept, .ref rM_refused, .int u_17, .int fl, .ref aVs, .int vn, .ref aSg, .int sm, .long M_tells, .int M_way, .int M_wish, .long M_moreTick, .long M_moreForce, .int M_runTurns, .long M_runFirst, .long M_runLast, .ref rM_was, .long M_peak, .long M_beside, .int M_besideAt])), (aNw, .inl (cNw, 139, .inr (.inl fNw)))]) ⟨hx, hb, hml, hown, hts⟩ (c_X8_rank l G r_18) (kk_cwS 1 hts hsb wd_321 wd_322 wd_5 wd_323 rfl rfl hd_X8_rank ⟨Nat.le_of_ble_eq_true rfl, Nat.le_of_ble_eq_true rfl⟩) hA hK hq [] [0, 1, 2, 3] [] rfl rfl rfl (by decide) (by decide) (by decide) rfl hl.1 rfl (Nat.le_of_ble_eq_true rfl) dX8_reads_330 ⟨Nat.zero_le _, Nat.zero_le _⟩ (fun r_37 u_36 H locs h_38 hq => ?_)
              have er_37 := h_38
              have hq : kAt G A s [(aVs, .inl (cVs, 64, .inr (.inl vf))), (aSg, .inl (cSg, 128, .inl sf)), (aM, .inr (8, [.ref aNw, .ref rM_kept, .ref rM_isKept, .ref rM_refused, .int u_17, .int fl, .ref aVs, .int vn, .ref aSg, .int sm, .long M_tells, .int M_way, .int M_wish, .long M_moreTick, .long M_moreForce, .int M_runTurns, .long M_runFirst, .long M_runLast, .ref rM_was, .long M_peak, .long M_beside, .int M_besideAt])), (aNw, .inl (cNw, 139, .inr (.inl fNw)))] H locs := hq
              refine lv_iconst (v := 3) hx hb dX8_reads_333 (by decide) ?_
              refine lv_icmp_ne (tgt := 341) hx hb dX8_reads_334 (by decide) (fun c_39 => ?_) (fun c_39 => ?_)
              · skip
                refine lv_iload hx hb dX8_reads_341 (lv_at hl 0 rfl) ?_
                refine kk_Si (As := [.int r_18]) (rest := [.ref aM]) (wr := [(aVs, .inl (cVs, 64, .inr (.inl vf))), (aSg, .inl (cSg, 128, .inl sf)), (aM, .inr (8, [.ref aNw, .ref rM_kept, .ref rM_isKept, .ref rM_refused, .int u_17, .int fl, .ref aVs, .int vn, .ref aSg, .int sm, .long M_tells, .int M_way, .int M_wish, .long M_moreTick, .long M_moreForce, .int M_runTurns, .long M_runFirst, .long M_runLast, .ref rM_was, .long M_peak, .long M_beside, .int M_besideAt])), (aNw, .inl (cNw, 139, .inr (.inl fNw)))]) ⟨hx, hb, hml, hown, hts⟩ (c_X8_rank l G r_18) (kk_cwS 1 hts hsb wd_321 wd_322 wd_5 wd_323 rfl rfl hd_X8_rank ⟨Nat.le_of_ble_eq_true rfl, Nat.le_of_ble_eq_true rfl⟩) hA hK hq [] [0, 1, 2, 3] [] rfl rfl rfl (by decide) (by decide) (by decide) rfl hl.1 rfl (Nat.le_of_ble_eq_true rfl) dX8_reads_343 ⟨Nat.zero_le _, Nat.zero_le _⟩ (fun r_41 u_40 H locs h_42 hq => ?_)
                have er_41 := h_42
                have hq : kAt G A s [(aVs, .inl (cVs, 64, .inr (.inl vf))), (aSg, .inl (cSg, 128, .inl sf)), (aM, .inr (8, [.ref aNw, .ref rM_kept, .ref rM_isKept, .ref rM_refused, .int u_17, .int fl, .ref aVs, .int vn, .ref aSg, .int sm, .long M_tells, .int M_way, .int M_wish, .long M_moreTick, .long M_moreForce, .int M_runTurns, .long M_runFirst, .long M_runLast, .ref rM_was, .long M_peak, .long M_beside, .int M_besideAt])), (aNw, .inl (cNw, 139, .inr (.inl fNw)))] H locs := hq
                refine kk_Vv (As := [.int r_41]) (rest := []) (wr := [(aNw, .inl (cNw, 139, .inr (.inl fNw)))]) ⟨hx, hb, hml, hown, hts⟩ (c_X8_workDown l G aM aVs aSg aNw rM_kept rM_isKept rM_refused rM_was cVs cSg r_41 u_17 fl vn sm M_tells M_way M_wish M_moreTick M_moreForce M_runTurns M_runFirst M_runLast M_peak M_beside M_besideAt vf sf s0 s1 hvb v2) (kk_cwV 1 hts hsb wd_317 wd_318 wd_319 wd_5 wd_320 rfl rfl hd_X8_workDown ⟨Nat.le_of_ble_eq_true rfl, Nat.le_of_ble_eq_true rfl⟩) hA hK hq [2, 0, 1] [3] [1, 2] rfl rfl rfl (by decide) (by decide) (by decide) 0 8 rfl rfl rfl rfl hl.1 rfl (Nat.le_of_ble_eq_true rfl) dX8_reads_346 ⟨Nat.zero_le _, Nat.zero_le _⟩ (fun u_43 H locs h_45 hq => ?_)
                obtain ⟨eu_43, d0_u_43, d1_u_43, d2_u_43, d4_u_43, d5_u_43, d3_u_43⟩ := h_45
                have hq : kAt G A s [(aNw, .inl (cNw, 139, .inr (.inl fNw))), (aM, .inr (8, [.ref aNw, .ref rM_kept, .ref rM_isKept, .ref rM_refused, .int u_17, .int fl, .ref aVs, .int u_43.1, .ref aSg, .int u_43.2.1, .long M_tells, .int M_way, .int M_wish, .long M_moreTick, .long M_moreForce, .int M_runTurns, .long M_runFirst, .long M_runLast, .ref rM_was, .long M_peak, .long M_beside, .int M_besideAt])), (aVs, .inl (cVs, 64, .inr (.inl u_43.2.2))), (aSg, .inl (cSg, 128, .inl sf))] H locs := hq
                have riw := RI_wd ri0 d0_u_43 d1_u_43 d2_u_43 d4_u_43 d5_u_43
                have riwa := RI_wa riw hwa0
                have rvw := RI_v riw
                have d0_ := d0_u_43
                have sm9 : u_43.2.1.toInt < (128 : Nat) := by omega
                refine lv_iload hx hb dX8_reads_349 (lv_at hl 0 rfl) ?_
                refine kk_Si (As := [.int r_18]) (rest := []) (wr := [(aNw, .inl (cNw, 139, .inr (.inl fNw))), (aM, .inr (8, [.ref aNw, .ref rM_kept, .ref rM_isKept, .ref rM_refused, .int u_17, .int fl, .ref aVs, .int u_43.1, .ref aSg, .int u_43.2.1, .long M_tells, .int M_way, .int M_wish, .long M_moreTick, .long M_moreForce, .int M_runTurns, .long M_runFirst, .long M_runLast, .ref rM_was, .long M_peak, .long M_beside, .int M_besideAt])), (aVs, .inl (cVs, 64, .inr (.inl u_43.2.2))), (aSg, .inl (cSg, 128, .inl sf))]) ⟨hx, hb, hml, hown, hts⟩ (c_X8_rank l G r_18) (kk_cwS 1 hts hsb wd_321 wd_322 wd_5 wd_323 rfl rfl hd_X8_rank ⟨Nat.le_of_ble_eq_true rfl, Nat.le_of_ble_eq_true rfl⟩) hA hK hq [] [0, 1, 2, 3] [] rfl rfl rfl (by decide) (by decide) (by decide) rfl hl.1 rfl (Nat.le_of_ble_eq_true rfl) dX8_reads_351 ⟨Nat.zero_le _, Nat.zero_le _⟩ (fun r_47 u_46 H locs h_48 hq => ?_)
                have er_47 := h_48
                have hq : kAt G A s [(aNw, .inl (cNw, 139, .inr (.inl fNw))), (aM, .inr (8, [.ref aNw, .ref rM_kept, .ref rM_isKept, .ref rM_refused, .int u_17, .int fl, .ref aVs, .int u_43.1, .ref aSg, .int u_43.2.1, .long M_tells, .int M_way, .int M_wish, .long M_moreTick, .long M_moreForce, .int M_runTurns, .long M_runFirst, .long M_runLast, .ref rM_was, .long M_peak, .long M_beside, .int M_besideAt])), (aVs, .inl (cVs, 64, .inr (.inl u_43.2.2))), (aSg, .inl (cSg, 128, .inl sf))] H locs := hq
                refine lv_iconst (v := 3) hx hb dX8_reads_354 (by decide) ?_
                refine lv_icmp_ne (tgt := 416) hx hb dX8_reads_355 (by decide) (fun c_49 => ?_) (fun c_49 => ?_)
                · skip
                  refine lv_aload_n hx hb dX8_reads_416 rfl (lv_at hl 4 rfl) ?_
                  refine lv_dup hx hb dX8_reads_417 rfl ?_
                  refine kk_get (ci := 8) (v := .int u_17) (C := RX8) (T := TX8) (N := 22) hx hb hts iX8 hown hK hq 1 rfl rfl 4 (by decide) lk0_ rfl dX8_reads_418 ?_
                  refine lv_iconst (v := 1) hx hb dX8_reads_421 (by decide) ?_
                  refine lv_iadd hx hb dX8_reads_422 ?_
                  refine lv_topi (fun at_50 eat_50 => ?_)
                  refine kk_put (ws' := [(aNw, .inl (cNw, 139, .inr (.inl fNw))), (aM, .inr (8, [.ref aNw, .ref rM_kept, .ref rM_isKept, .ref rM_refused, .int at_50, .int fl, .ref aVs, .int u_43.1, .ref aSg, .int u_43.2.1, .long M_tells, .int M_way, .int M_wish, .long M_moreTick, .long M_moreForce, .int M_runTurns, .long M_runFirst, .long M_runLast, .ref rM_was, .long M_peak, .long M_beside, .int M_besideAt])), (aVs, .inl (cVs, 64, .inr (.inl u_43.2.2))), (aSg, .inl (cSg, 128, .inl sf))]) (ci := 8) (v := .int at_50) (C := RX8) (T := TX8) (N := 22) hx hb hts iX8 tyX8_ok nmX8 hown hK hq 1 rfl rfl 4 (by decide) lk0_ rfl rfl rfl (Nat.le_of_ble_eq_true rfl) dX8_reads_423 rfl (fun H locs hq => ?_)
                  have eAt := eat_50
                  have iAt : at_50.toInt = _ := (congrArg Int32.toInt eat_50).trans (kk_inc (by omega))
                  have iA6 : at_50.toInt ≤ 60 := by omega
                  refine lv_aload_n hx hb dX8_reads_426 rfl (lv_at hl 4 rfl) ?_
                  refine kk_get (ci := 8) (v := .ref aSg) (C := RX8) (T := TX8) (N := 22) hx hb hts iX8 hown hK hq 1 rfl rfl 8 (by decide) lk4_ rfl dX8_reads_427 ?_
                  refine lv_aload_n hx hb dX8_reads_430 rfl (lv_at hl 4 rfl) ?_
                  refine kk_get (ci := 8) (v := .int u_43.2.1) (C := RX8) (T := TX8) (N := 22) hx hb hts iX8 hown hK hq 1 rfl rfl 9 (by decide) lk3_ rfl dX8_reads_431 ?_
                  refine lv_iload hx hb dX8_reads_434 (lv_at hl 0 rfl) ?_
                  refine kk_iast (ws' := [(aNw, .inl (cNw, 139, .inr (.inl fNw))), (aM, .inr (8, [.ref aNw, .ref rM_kept, .ref rM_isKept, .ref rM_refused, .int at_50, .int fl, .ref aVs, .int u_43.1, .ref aSg, .int u_43.2.1, .long M_tells, .int M_way, .int M_wish, .long M_moreTick, .long M_moreForce, .int M_runTurns, .long M_runFirst, .long M_runLast, .ref rM_was, .long M_peak, .long M_beside, .int M_besideAt])), (aVs, .inl (cVs, 64, .inr (.inl u_43.2.2))), (aSg, .inl (cSg, 128, .inl (upd sf u_43.2.1.toNatClampNeg r_18)))]) hx hb hK hq 3 2 rfl rfl u_43.2.1.toNatClampNeg (kk_cl d0_) (kk_clt d0_ sm9) (by decide) dX8_reads_436 rfl (fun H locs hq => ?_)
                  obtain ⟨fSg_51, efSg_51⟩ : ∃ z : Nat → Int32, z = upd sf u_43.2.1.toNatClampNeg r_18 := ⟨_, rfl⟩
                  rw [← efSg_51] at hq
                  have eSf := efSg_51
                  refine lv_aload_n hx hb dX8_reads_437 rfl (lv_at hl 4 rfl) ?_
                  refine lv_dup hx hb dX8_reads_438 rfl ?_
                  refine kk_get (ci := 8) (v := .int u_43.2.1) (C := RX8) (T := TX8) (N := 22) hx hb hts iX8 hown hK hq 1 rfl rfl 9 (by decide) lk3_ rfl dX8_reads_439 ?_
                  refine lv_iconst (v := 1) hx hb dX8_reads_442 (by decide) ?_
                  refine lv_iadd hx hb dX8_reads_443 ?_
                  refine lv_topi (fun signMany_52 esignMany_52 => ?_)
                  refine kk_put (ws' := [(aNw, .inl (cNw, 139, .inr (.inl fNw))), (aM, .inr (8, [.ref aNw, .ref rM_kept, .ref rM_isKept, .ref rM_refused, .int at_50, .int fl, .ref aVs, .int u_43.1, .ref aSg, .int signMany_52, .long M_tells, .int M_way, .int M_wish, .long M_moreTick, .long M_moreForce, .int M_runTurns, .long M_runFirst, .long M_runLast, .ref rM_was, .long M_peak, .long M_beside, .int M_besideAt])), (aVs, .inl (cVs, 64, .inr (.inl u_43.2.2))), (aSg, .inl (cSg, 128, .inl fSg_51))]) (ci := 8) (v := .int signMany_52) (C := RX8) (T := TX8) (N := 22) hx hb hts iX8 tyX8_ok nmX8 hown hK hq 1 rfl rfl 9 (by decide) lk3_ rfl rfl rfl (Nat.le_of_ble_eq_true rfl) dX8_reads_444 rfl (fun H locs hq => ?_)
                  have riN := RI_bin riw h60 eAt esignMany_52 rk.1 rk.2.1
                  rw [← eSf] at riN
                  refine lv_iconst (v := 1) hx hb dX8_reads_447 (by decide) ?_
                  refine lv_istore_n (lv' := [(2, .int 1), (4, .int r_18), (3, .int go), (1, .int op), (0, .ref aM)]) hx hb dX8_reads_448 rfl hl (by decide) rfl (fun ls hl => ?_)
                  refine lv_goto (tgt := 485) hx hb dX8_reads_449 (by decide) ?_
                  refine lv_goto (tgt := 26) hx hb dX8_reads_485 (by decide) ?_
                  have hst_53 : lpX8_reads_26 fNw (N26 + 1) op wa go at_ fl vn sm vf sf = lpX8_reads_26 fNw N26 op 1 go at_50 fl u_43.1 signMany_52 u_43.2.2 fSg_51 := by
                    subst esignMany_52 efSg_51 eat_50 er_47 eu_43 er_41 er_37 er_23 eu_17 er_18
                    exact (if_neg c_1).trans ((if_pos c_9).trans ((if_pos c_20).trans ((if_neg c_21).trans ((if_neg c_25).trans ((if_neg c_39).trans ((if_neg c_49).trans (rfl)))))))
                  exact ih26 op 1 go at_50 fl u_43.1 signMany_52 u_43.2.2 fSg_51 _ _ _ ⟨(hrel26.trans (hst_53)), (by assumption), (by omega), (by first | assumption | exact ⟨by omega, Or.inr (Or.inr (by omega))⟩ | exact ⟨by omega, Or.inr (Or.inl (by assumption))⟩ | exact ⟨by omega, Or.inl rfl⟩), lv_sub hl [2, 0, 3, 4] rfl, (kk_sub hq [1, 0, 2, 3] rfl (by decide))⟩
                · skip
                  refine lv_aload_n hx hb dX8_reads_358 rfl (lv_at hl 4 rfl) ?_
                  refine kk_get (ci := 8) (v := .int u_43.2.1) (C := RX8) (T := TX8) (N := 22) hx hb hts iX8 hown hK hq 1 rfl rfl 9 (by decide) lk3_ rfl dX8_reads_359 ?_
                  refine lv_if_le (tgt := 416) hx hb dX8_reads_362 (by decide) (fun c_54 => ?_) (fun c_54 => ?_)
                  · skip
                    refine lv_aload_n hx hb dX8_reads_416 rfl (lv_at hl 4 rfl) ?_
                    refine lv_dup hx hb dX8_reads_417 rfl ?_
                    refine kk_get (ci := 8) (v := .int u_17) (C := RX8) (T := TX8) (N := 22) hx hb hts iX8 hown hK hq 1 rfl rfl 4 (by decide) lk0_ rfl dX8_reads_418 ?_
                    refine lv_iconst (v := 1) hx hb dX8_reads_421 (by decide) ?_
                    refine lv_iadd hx hb dX8_reads_422 ?_
                    refine lv_topi (fun at_55 eat_55 => ?_)
                    refine kk_put (ws' := [(aNw, .inl (cNw, 139, .inr (.inl fNw))), (aM, .inr (8, [.ref aNw, .ref rM_kept, .ref rM_isKept, .ref rM_refused, .int at_55, .int fl, .ref aVs, .int u_43.1, .ref aSg, .int u_43.2.1, .long M_tells, .int M_way, .int M_wish, .long M_moreTick, .long M_moreForce, .int M_runTurns, .long M_runFirst, .long M_runLast, .ref rM_was, .long M_peak, .long M_beside, .int M_besideAt])), (aVs, .inl (cVs, 64, .inr (.inl u_43.2.2))), (aSg, .inl (cSg, 128, .inl sf))]) (ci := 8) (v := .int at_55) (C := RX8) (T := TX8) (N := 22) hx hb hts iX8 tyX8_ok nmX8 hown hK hq 1 rfl rfl 4 (by decide) lk0_ rfl rfl rfl (Nat.le_of_ble_eq_true rfl) dX8_reads_423 rfl (fun H locs hq => ?_)
                    have eAt := eat_55
                    have iAt : at_55.toInt = _ := (congrArg Int32.toInt eat_55).trans (kk_inc (by omega))
                    have iA6 : at_55.toInt ≤ 60 := by omega
                    refine lv_aload_n hx hb dX8_reads_426 rfl (lv_at hl 4 rfl) ?_
                    refine kk_get (ci := 8) (v := .ref aSg) (C := RX8) (T := TX8) (N := 22) hx hb hts iX8 hown hK hq 1 rfl rfl 8 (by decide) lk4_ rfl dX8_reads_427 ?_
                    refine lv_aload_n hx hb dX8_reads_430 rfl (lv_at hl 4 rfl) ?_
                    refine kk_get (ci := 8) (v := .int u_43.2.1) (C := RX8) (T := TX8) (N := 22) hx hb hts iX8 hown hK hq 1 rfl rfl 9 (by decide) lk3_ rfl dX8_reads_431 ?_
                    refine lv_iload hx hb dX8_reads_434 (lv_at hl 0 rfl) ?_
                    refine kk_iast (ws' := [(aNw, .inl (cNw, 139, .inr (.inl fNw))), (aM, .inr (8, [.ref aNw, .ref rM_kept, .ref rM_isKept, .ref rM_refused, .int at_55, .int fl, .ref aVs, .int u_43.1, .ref aSg, .int u_43.2.1, .long M_tells, .int M_way, .int M_wish, .long M_moreTick, .long M_moreForce, .int M_runTurns, .long M_runFirst, .long M_runLast, .ref rM_was, .long M_peak, .long M_beside, .int M_besideAt])), (aVs, .inl (cVs, 64, .inr (.inl u_43.2.2))), (aSg, .inl (cSg, 128, .inl (upd sf u_43.2.1.toNatClampNeg r_18)))]) hx hb hK hq 3 2 rfl rfl u_43.2.1.toNatClampNeg (kk_cl d0_) (kk_clt d0_ sm9) (by decide) dX8_reads_436 rfl (fun H locs hq => ?_)
                    obtain ⟨fSg_56, efSg_56⟩ : ∃ z : Nat → Int32, z = upd sf u_43.2.1.toNatClampNeg r_18 := ⟨_, rfl⟩
                    rw [← efSg_56] at hq
                    have eSf := efSg_56
                    refine lv_aload_n hx hb dX8_reads_437 rfl (lv_at hl 4 rfl) ?_
                    refine lv_dup hx hb dX8_reads_438 rfl ?_
                    refine kk_get (ci := 8) (v := .int u_43.2.1) (C := RX8) (T := TX8) (N := 22) hx hb hts iX8 hown hK hq 1 rfl rfl 9 (by decide) lk3_ rfl dX8_reads_439 ?_
                    refine lv_iconst (v := 1) hx hb dX8_reads_442 (by decide) ?_
                    refine lv_iadd hx hb dX8_reads_443 ?_
                    refine lv_topi (fun signMany_57 esignMany_57 => ?_)
                    refine kk_put (ws' := [(aNw, .inl (cNw, 139, .inr (.inl fNw))), (aM, .inr (8, [.ref aNw, .ref rM_kept, .ref rM_isKept, .ref rM_refused, .int at_55, .int fl, .ref aVs, .int u_43.1, .ref aSg, .int signMany_57, .long M_tells, .int M_way, .int M_wish, .long M_moreTick, .long M_moreForce, .int M_runTurns, .long M_runFirst, .long M_runLast, .ref rM_was, .long M_peak, .long M_beside, .int M_besideAt])), (aVs, .inl (cVs, 64, .inr (.inl u_43.2.2))), (aSg, .inl (cSg, 128, .inl fSg_56))]) (ci := 8) (v := .int signMany_57) (C := RX8) (T := TX8) (N := 22) hx hb hts iX8 tyX8_ok nmX8 hown hK hq 1 rfl rfl 9 (by decide) lk3_ rfl rfl rfl (Nat.le_of_ble_eq_true rfl) dX8_reads_444 rfl (fun H locs hq => ?_)
                    have riN := RI_bin riw h60 eAt esignMany_57 rk.1 rk.2.1
                    rw [← eSf] at riN
                    refine lv_iconst (v := 1) hx hb dX8_reads_447 (by decide) ?_
                    refine lv_istore_n (lv' := [(2, .int 1), (4, .int r_18), (3, .int go), (1, .int op), (0, .ref aM)]) hx hb dX8_reads_448 rfl hl (by decide) rfl (fun ls hl => ?_)
                    refine lv_goto (tgt := 485) hx hb dX8_reads_449 (by decide) ?_
                    refine lv_goto (tgt := 26) hx hb dX8_reads_485 (by decide) ?_
                    have hst_58 : lpX8_reads_26 fNw (N26 + 1) op wa go at_ fl vn sm vf sf = lpX8_reads_26 fNw N26 op 1 go at_55 fl u_43.1 signMany_57 u_43.2.2 fSg_56 := by
                      subst esignMany_57 efSg_56 eat_55 er_47 eu_43 er_41 er_37 er_23 eu_17 er_18
                      exact (if_neg c_1).trans ((if_pos c_9).trans ((if_pos c_20).trans ((if_neg c_21).trans ((if_neg c_25).trans ((if_neg c_39).trans ((if_pos c_49).trans ((if_pos c_54).trans (rfl))))))))
                    exact ih26 op 1 go at_55 fl u_43.1 signMany_57 u_43.2.2 fSg_56 _ _ _ ⟨(hrel26.trans (hst_58)), (by assumption), (by omega), (by first | assumption | exact ⟨by omega, Or.inr (Or.inr (by omega))⟩ | exact ⟨by omega, Or.inr (Or.inl (by assumption))⟩ | exact ⟨by omega, Or.inl rfl⟩), lv_sub hl [2, 0, 3, 4] rfl, (kk_sub hq [1, 0, 2, 3] rfl (by decide))⟩
                  · skip
                    have hpp := kk_nle2 (k := 0) rfl c_54
                    have hp := dec_b (n := (128 : Nat)) rfl hpp (by omega)
                    refine lv_aload_n hx hb dX8_reads_365 rfl (lv_at hl 4 rfl) ?_
                    refine kk_get (ci := 8) (v := .ref aSg) (C := RX8) (T := TX8) (N := 22) hx hb hts iX8 hown hK hq 1 rfl rfl 8 (by decide) lk4_ rfl dX8_reads_366 ?_
                    refine lv_aload_n hx hb dX8_reads_369 rfl (lv_at hl 4 rfl) ?_
                    refine kk_get (ci := 8) (v := .int u_43.2.1) (C := RX8) (T := TX8) (N := 22) hx hb hts iX8 hown hK hq 1 rfl rfl 9 (by decide) lk3_ rfl dX8_reads_370 ?_
                    refine lv_iconst (v := 1) hx hb dX8_reads_373 (by decide) ?_
                    refine lv_isub hx hb dX8_reads_374 ?_
                    refine kk_iald hx hb hK hq 3 2 rfl rfl ((u_43.2.1 - 1).toNatClampNeg) (kk_cl hp.1) (kk_clt hp.1 hp.2.1) (by decide) dX8_reads_375 ?_
                    refine lv_sipush (v := 1000) hx hb dX8_reads_376 (by decide) ?_
                    refine lv_icmp_ge (tgt := 416) hx hb dX8_reads_379 (by decide) (fun c_59 => ?_) (fun c_59 => ?_)
                    · skip
                      refine lv_aload_n hx hb dX8_reads_416 rfl (lv_at hl 4 rfl) ?_
                      refine lv_dup hx hb dX8_reads_417 rfl ?_
                      refine kk_get (ci := 8) (v := .int u_17) (C := RX8) (T := TX8) (N := 22) hx hb hts iX8 hown hK hq 1 rfl rfl 4 (by decide) lk0_ rfl dX8_reads_418 ?_
                      refine lv_iconst (v := 1) hx hb dX8_reads_421 (by decide) ?_
                      refine lv_iadd hx hb dX8_reads_422 ?_
                      refine lv_topi (fun at_60 eat_60 => ?_)
                      refine kk_put (ws' := [(aNw, .inl (cNw, 139, .inr (.inl fNw))), (aM, .inr (8, [.ref aNw, .ref rM_kept, .ref rM_isKept, .ref rM_refused, .int at_60, .int fl, .ref aVs, .int u_43.1, .ref aSg, .int u_43.2.1, .long M_tells, .int M_way, .int M_wish, .long M_moreTick, .long M_moreForce, .int M_runTurns, .long M_runFirst, .long M_runLast, .ref rM_was, .long M_peak, .long M_beside, .int M_besideAt])), (aVs, .inl (cVs, 64, .inr (.inl u_43.2.2))), (aSg, .inl (cSg, 128, .inl sf))]) (ci := 8) (v := .int at_60) (C := RX8) (T := TX8) (N := 22) hx hb hts iX8 tyX8_ok nmX8 hown hK hq 1 rfl rfl 4 (by decide) lk0_ rfl rfl rfl (Nat.le_of_ble_eq_true rfl) dX8_reads_423 rfl (fun H locs hq => ?_)
                      have eAt := eat_60
                      have iAt : at_60.toInt = _ := (congrArg Int32.toInt eat_60).trans (kk_inc (by omega))
                      have iA6 : at_60.toInt ≤ 60 := by omega
                      refine lv_aload_n hx hb dX8_reads_426 rfl (lv_at hl 4 rfl) ?_
                      refine kk_get (ci := 8) (v := .ref aSg) (C := RX8) (T := TX8) (N := 22) hx hb hts iX8 hown hK hq 1 rfl rfl 8 (by decide) lk4_ rfl dX8_reads_427 ?_
                      refine lv_aload_n hx hb dX8_reads_430 rfl (lv_at hl 4 rfl) ?_
                      refine kk_get (ci := 8) (v := .int u_43.2.1) (C := RX8) (T := TX8) (N := 22) hx hb hts iX8 hown hK hq 1 rfl rfl 9 (by decide) lk3_ rfl dX8_reads_431 ?_
                      refine lv_iload hx hb dX8_reads_434 (lv_at hl 0 rfl) ?_
                      refine kk_iast (ws' := [(aNw, .inl (cNw, 139, .inr (.inl fNw))), (aM, .inr (8, [.ref aNw, .ref rM_kept, .ref rM_isKept, .ref rM_refused, .int at_60, .int fl, .ref aVs, .int u_43.1, .ref aSg, .int u_43.2.1, .long M_tells, .int M_way, .int M_wish, .long M_moreTick, .long M_moreForce, .int M_runTurns, .long M_runFirst, .long M_runLast, .ref rM_was, .long M_peak, .long M_beside, .int M_besideAt])), (aVs, .inl (cVs, 64, .inr (.inl u_43.2.2))), (aSg, .inl (cSg, 128, .inl (upd sf u_43.2.1.toNatClampNeg r_18)))]) hx hb hK hq 3 2 rfl rfl u_43.2.1.toNatClampNeg (kk_cl d0_) (kk_clt d0_ sm9) (by decide) dX8_reads_436 rfl (fun H locs hq => ?_)
                      obtain ⟨fSg_61, efSg_61⟩ : ∃ z : Nat → Int32, z = upd sf u_43.2.1.toNatClampNeg r_18 := ⟨_, rfl⟩
                      rw [← efSg_61] at hq
                      have eSf := efSg_61
                      refine lv_aload_n hx hb dX8_reads_437 rfl (lv_at hl 4 rfl) ?_
                      refine lv_dup hx hb dX8_reads_438 rfl ?_
                      refine kk_get (ci := 8) (v := .int u_43.2.1) (C := RX8) (T := TX8) (N := 22) hx hb hts iX8 hown hK hq 1 rfl rfl 9 (by decide) lk3_ rfl dX8_reads_439 ?_
                      refine lv_iconst (v := 1) hx hb dX8_reads_442 (by decide) ?_
                      refine lv_iadd hx hb dX8_reads_443 ?_
                      refine lv_topi (fun signMany_62 esignMany_62 => ?_)
                      refine kk_put (ws' := [(aNw, .inl (cNw, 139, .inr (.inl fNw))), (aM, .inr (8, [.ref aNw, .ref rM_kept, .ref rM_isKept, .ref rM_refused, .int at_60, .int fl, .ref aVs, .int u_43.1, .ref aSg, .int signMany_62, .long M_tells, .int M_way, .int M_wish, .long M_moreTick, .long M_moreForce, .int M_runTurns, .long M_runFirst, .long M_runLast, .ref rM_was, .long M_peak, .long M_beside, .int M_besideAt])), (aVs, .inl (cVs, 64, .inr (.inl u_43.2.2))), (aSg, .inl (cSg, 128, .inl fSg_61))]) (ci := 8) (v := .int signMany_62) (C := RX8) (T := TX8) (N := 22) hx hb hts iX8 tyX8_ok nmX8 hown hK hq 1 rfl rfl 9 (by decide) lk3_ rfl rfl rfl (Nat.le_of_ble_eq_true rfl) dX8_reads_444 rfl (fun H locs hq => ?_)
                      have riN := RI_bin riw h60 eAt esignMany_62 rk.1 rk.2.1
                      rw [← eSf] at riN
                      refine lv_iconst (v := 1) hx hb dX8_reads_447 (by decide) ?_
                      refine lv_istore_n (lv' := [(2, .int 1), (4, .int r_18), (3, .int go), (1, .int op), (0, .ref aM)]) hx hb dX8_reads_448 rfl hl (by decide) rfl (fun ls hl => ?_)
                      refine lv_goto (tgt := 485) hx hb dX8_reads_449 (by decide) ?_
                      refine lv_goto (tgt := 26) hx hb dX8_reads_485 (by decide) ?_
                      have hst_63 : lpX8_reads_26 fNw (N26 + 1) op wa go at_ fl vn sm vf sf = lpX8_reads_26 fNw N26 op 1 go at_60 fl u_43.1 signMany_62 u_43.2.2 fSg_61 := by
                        subst esignMany_62 efSg_61 eat_60 er_47 eu_43 er_41 er_37 er_23 eu_17 er_18
                        exact (if_neg c_1).trans ((if_pos c_9).trans ((if_pos c_20).trans ((if_neg c_21).trans ((if_neg c_25).trans ((if_neg c_39).trans ((if_pos c_49).trans ((if_neg c_54).trans ((if_pos c_59).trans (rfl)))))))))
                      exact ih26 op 1 go at_60 fl u_43.1 signMany_62 u_43.2.2 fSg_61 _ _ _ ⟨(hrel26.trans (hst_63)), (by assumption), (by omega), (by first | assumption | exact ⟨by omega, Or.inr (Or.inr (by omega))⟩ | exact ⟨by omega, Or.inr (Or.inl (by assumption))⟩ | exact ⟨by omega, Or.inl rfl⟩), lv_sub hl [2, 0, 3, 4] rfl, (kk_sub hq [1, 0, 2, 3] rfl (by decide))⟩
                    · skip
                      refine lv_aload_n hx hb dX8_reads_382 rfl (lv_at hl 4 rfl) ?_
                      refine kk_get (ci := 8) (v := .ref aSg) (C := RX8) (T := TX8) (N := 22) hx hb hts iX8 hown hK hq 1 rfl rfl 8 (by decide) lk4_ rfl dX8_reads_383 ?_
                      refine lv_aload_n hx hb dX8_reads_386 rfl (lv_at hl 4 rfl) ?_
                      refine kk_get (ci := 8) (v := .int u_43.2.1) (C := RX8) (T := TX8) (N := 22) hx hb hts iX8 hown hK hq 1 rfl rfl 9 (by decide) lk3_ rfl dX8_reads_387 ?_
                      refine lv_iconst (v := 1) hx hb dX8_reads_390 (by decide) ?_
                      refine lv_isub hx hb dX8_reads_391 ?_
                      refine kk_iald hx hb hK hq 3 2 rfl rfl ((u_43.2.1 - 1).toNatClampNeg) (kk_cl hp.1) (kk_clt hp.1 hp.2.1) (by decide) dX8_reads_392 ?_
                      refine kk_Si (As := [.int (sf ((u_43.2.1 - 1).toNatClampNeg))]) (rest := []) (wr := [(aNw, .inl (cNw, 139, .inr (.inl fNw))), (aM, .inr (8, [.ref aNw, .ref rM_kept, .ref rM_isKept, .ref rM_refused, .int u_17, .int fl, .ref aVs, .int u_43.1, .ref aSg, .int u_43.2.1, .long M_tells, .int M_way, .int M_wish, .long M_moreTick, .long M_moreForce, .int M_runTurns, .long M_runFirst, .long M_runLast, .ref rM_was, .long M_peak, .long M_beside, .int M_besideAt])), (aVs, .inl (cVs, 64, .inr (.inl u_43.2.2))), (aSg, .inl (cSg, 128, .inl sf))]) ⟨hx, hb, hml, hown, hts⟩ (c_X8_rank l G (sf ((u_43.2.1 - 1).toNatClampNeg))) (kk_cwS 1 hts hsb wd_321 wd_322 wd_5 wd_323 rfl rfl hd_X8_rank ⟨Nat.le_of_ble_eq_true rfl, Nat.le_of_ble_eq_true rfl⟩) hA hK hq [] [0, 1, 2, 3] [] rfl rfl rfl (by decide) (by decide) (by decide) rfl hl.1 rfl (Nat.le_of_ble_eq_true rfl) dX8_reads_393 ⟨Nat.zero_le _, Nat.zero_le _⟩ (fun r_65 u_64 H locs h_66 hq => ?_)
                      have er_65 := h_66
                      have hq : kAt G A s [(aNw, .inl (cNw, 139, .inr (.inl fNw))), (aM, .inr (8, [.ref aNw, .ref rM_kept, .ref rM_isKept, .ref rM_refused, .int u_17, .int fl, .ref aVs, .int u_43.1, .ref aSg, .int u_43.2.1, .long M_tells, .int M_way, .int M_wish, .long M_moreTick, .long M_moreForce, .int M_runTurns, .long M_runFirst, .long M_runLast, .ref rM_was, .long M_peak, .long M_beside, .int M_besideAt])), (aVs, .inl (cVs, 64, .inr (.inl u_43.2.2))), (aSg, .inl (cSg, 128, .inl sf))] H locs := hq
                      refine lv_iconst (v := 3) hx hb dX8_reads_396 (by decide) ?_
                      refine lv_icmp_ne (tgt := 416) hx hb dX8_reads_397 (by decide) (fun c_67 => ?_) (fun c_67 => ?_)
                      · skip
                        refine lv_aload_n hx hb dX8_reads_416 rfl (lv_at hl 4 rfl) ?_
                        refine lv_dup hx hb dX8_reads_417 rfl ?_
                        refine kk_get (ci := 8) (v := .int u_17) (C := RX8) (T := TX8) (N := 22) hx hb hts iX8 hown hK hq 1 rfl rfl 4 (by decide) lk0_ rfl dX8_reads_418 ?_
                        refine lv_iconst (v := 1) hx hb dX8_reads_421 (by decide) ?_
                        refine lv_iadd hx hb dX8_reads_422 ?_
                        refine lv_topi (fun at_68 eat_68 => ?_)
                        refine kk_put (ws' := [(aNw, .inl (cNw, 139, .inr (.inl fNw))), (aM, .inr (8, [.ref aNw, .ref rM_kept, .ref rM_isKept, .ref rM_refused, .int at_68, .int fl, .ref aVs, .int u_43.1, .ref aSg, .int u_43.2.1, .long M_tells, .int M_way, .int M_wish, .long M_moreTick, .long M_moreForce, .int M_runTurns, .long M_runFirst, .long M_runLast, .ref rM_was, .long M_peak, .long M_beside, .int M_besideAt])), (aVs, .inl (cVs, 64, .inr (.inl u_43.2.2))), (aSg, .inl (cSg, 128, .inl sf))]) (ci := 8) (v := .int at_68) (C := RX8) (T := TX8) (N := 22) hx hb hts iX8 tyX8_ok nmX8 hown hK hq 1 rfl rfl 4 (by decide) lk0_ rfl rfl rfl (Nat.le_of_ble_eq_true rfl) dX8_reads_423 rfl (fun H locs hq => ?_)
                        have eAt := eat_68
                        have iAt : at_68.toInt = _ := (congrArg Int32.toInt eat_68).trans (kk_inc (by omega))
                        have iA6 : at_68.toInt ≤ 60 := by omega
                        refine lv_aload_n hx hb dX8_reads_426 rfl (lv_at hl 4 rfl) ?_
                        refine kk_get (ci := 8) (v := .ref aSg) (C := RX8) (T := TX8) (N := 22) hx hb hts iX8 hown hK hq 1 rfl rfl 8 (by decide) lk4_ rfl dX8_reads_427 ?_
                        refine lv_aload_n hx hb dX8_reads_430 rfl (lv_at hl 4 rfl) ?_
                        refine kk_get (ci := 8) (v := .int u_43.2.1) (C := RX8) (T := TX8) (N := 22) hx hb hts iX8 hown hK hq 1 rfl rfl 9 (by decide) lk3_ rfl dX8_reads_431 ?_
                        refine lv_iload hx hb dX8_reads_434 (lv_at hl 0 rfl) ?_
                        refine kk_iast (ws' := [(aNw, .inl (cNw, 139, .inr (.inl fNw))), (aM, .inr (8, [.ref aNw, .ref rM_kept, .ref rM_isKept, .ref rM_refused, .int at_68, .int fl, .ref aVs, .int u_43.1, .ref aSg, .int u_43.2.1, .long M_tells, .int M_way, .int M_wish, .long M_moreTick, .long M_moreForce, .int M_runTurns, .long M_runFirst, .long M_runLast, .ref rM_was, .long M_peak, .long M_beside, .int M_besideAt])), (aVs, .inl (cVs, 64, .inr (.inl u_43.2.2))), (aSg, .inl (cSg, 128, .inl (upd sf u_43.2.1.toNatClampNeg r_18)))]) hx hb hK hq 3 2 rfl rfl u_43.2.1.toNatClampNeg (kk_cl d0_) (kk_clt d0_ sm9) (by decide) dX8_reads_436 rfl (fun H locs hq => ?_)
                        obtain ⟨fSg_69, efSg_69⟩ : ∃ z : Nat → Int32, z = upd sf u_43.2.1.toNatClampNeg r_18 := ⟨_, rfl⟩
                        rw [← efSg_69] at hq
                        have eSf := efSg_69
                        refine lv_aload_n hx hb dX8_reads_437 rfl (lv_at hl 4 rfl) ?_
                        refine lv_dup hx hb dX8_reads_438 rfl ?_
                        refine kk_get (ci := 8) (v := .int u_43.2.1) (C := RX8) (T := TX8) (N := 22) hx hb hts iX8 hown hK hq 1 rfl rfl 9 (by decide) lk3_ rfl dX8_reads_439 ?_
                        refine lv_iconst (v := 1) hx hb dX8_reads_442 (by decide) ?_
                        refine lv_iadd hx hb dX8_reads_443 ?_
                        refine lv_topi (fun signMany_70 esignMany_70 => ?_)
                        refine kk_put (ws' := [(aNw, .inl (cNw, 139, .inr (.inl fNw))), (aM, .inr (8, [.ref aNw, .ref rM_kept, .ref rM_isKept, .ref rM_refused, .int at_68, .int fl, .ref aVs, .int u_43.1, .ref aSg, .int signMany_70, .long M_tells, .int M_way, .int M_wish, .long M_moreTick, .long M_moreForce, .int M_runTurns, .long M_runFirst, .long M_runLast, .ref rM_was, .long M_peak, .long M_beside, .int M_besideAt])), (aVs, .inl (cVs, 64, .inr (.inl u_43.2.2))), (aSg, .inl (cSg, 128, .inl fSg_69))]) (ci := 8) (v := .int signMany_70) (C := RX8) (T := TX8) (N := 22) hx hb hts iX8 tyX8_ok nmX8 hown hK hq 1 rfl rfl 9 (by decide) lk3_ rfl rfl rfl (Nat.le_of_ble_eq_true rfl) dX8_reads_444 rfl (fun H locs hq => ?_)
                        have riN := RI_bin riw h60 eAt esignMany_70 rk.1 rk.2.1
                        rw [← eSf] at riN
                        refine lv_iconst (v := 1) hx hb dX8_reads_447 (by decide) ?_
                        refine lv_istore_n (lv' := [(2, .int 1), (4, .int r_18), (3, .int go), (1, .int op), (0, .ref aM)]) hx hb dX8_reads_448 rfl hl (by decide) rfl (fun ls hl => ?_)
                        refine lv_goto (tgt := 485) hx hb dX8_reads_449 (by decide) ?_
                        refine lv_goto (tgt := 26) hx hb dX8_reads_485 (by decide) ?_
                        have hst_71 : lpX8_reads_26 fNw (N26 + 1) op wa go at_ fl vn sm vf sf = lpX8_reads_26 fNw N26 op 1 go at_68 fl u_43.1 signMany_70 u_43.2.2 fSg_69 := by
                          subst esignMany_70 efSg_69 eat_68 er_65 er_47 eu_43 er_41 er_37 er_23 eu_17 er_18
                          exact (if_neg c_1).trans ((if_pos c_9).trans ((if_pos c_20).trans ((if_neg c_21).trans ((if_neg c_25).trans ((if_neg c_39).trans ((if_pos c_49).trans ((if_neg c_54).trans ((if_neg c_59).trans ((if_neg c_67).trans (rfl))))))))))
                        exact ih26 op 1 go at_68 fl u_43.1 signMany_70 u_43.2.2 fSg_69 _ _ _ ⟨(hrel26.trans (hst_71)), (by assumption), (by omega), (by first | assumption | exact ⟨by omega, Or.inr (Or.inr (by omega))⟩ | exact ⟨by omega, Or.inr (Or.inl (by assumption))⟩ | exact ⟨by omega, Or.inl rfl⟩), lv_sub hl [2, 0, 3, 4] rfl, (kk_sub hq [1, 0, 2, 3] rfl (by decide))⟩
                      · skip
                        refine lv_aload_n hx hb dX8_reads_400 rfl (lv_at hl 4 rfl) ?_
                        refine lv_bipush (v := 10) hx hb dX8_reads_401 (by decide) ?_
                        refine lv_aload_n hx hb dX8_reads_403 rfl (lv_at hl 4 rfl) ?_
                        refine kk_get (ci := 8) (v := .int u_17) (C := RX8) (T := TX8) (N := 22) hx hb hts iX8 hown hK hq 1 rfl rfl 4 (by decide) lk0_ rfl dX8_reads_404 ?_
                        refine lv_imul hx hb dX8_reads_407 ?_
                        refine lv_iconst (v := 1) hx hb dX8_reads_408 (by decide) ?_
                        refine lv_iadd hx hb dX8_reads_409 ?_
                        refine lv_topi (fun fault_72 efault_72 => ?_)
                        refine kk_put (ws' := [(aNw, .inl (cNw, 139, .inr (.inl fNw))), (aM, .inr (8, [.ref aNw, .ref rM_kept, .ref rM_isKept, .ref rM_refused, .int u_17, .int fault_72, .ref aVs, .int u_43.1, .ref aSg, .int u_43.2.1, .long M_tells, .int M_way, .int M_wish, .long M_moreTick, .long M_moreForce, .int M_runTurns, .long M_runFirst, .long M_runLast, .ref rM_was, .long M_peak, .long M_beside, .int M_besideAt])), (aVs, .inl (cVs, 64, .inr (.inl u_43.2.2))), (aSg, .inl (cSg, 128, .inl sf))]) (ci := 8) (v := .int fault_72) (C := RX8) (T := TX8) (N := 22) hx hb hts iX8 tyX8_ok nmX8 hown hK hq 1 rfl rfl 5 (by decide) lk1_ rfl rfl rfl (Nat.le_of_ble_eq_true rfl) dX8_reads_410 rfl (fun H locs hq => ?_)
                        have hflt := fl_ne (k := 1) efault_72 u0 u1 (by decide) (by decide)
                        refine lv_goto (tgt := 485) hx hb dX8_reads_413 (by decide) ?_
                        refine lv_goto (tgt := 26) hx hb dX8_reads_485 (by decide) ?_
                        have hst_73 : lpX8_reads_26 fNw (N26 + 1) op wa go at_ fl vn sm vf sf = lpX8_reads_26 fNw N26 op wa go u_17 fault_72 u_43.1 u_43.2.1 u_43.2.2 sf := by
                          subst efault_72 er_65 er_47 eu_43 er_41 er_37 er_23 eu_17 er_18
                          exact (if_neg c_1).trans ((if_pos c_9).trans ((if_pos c_20).trans ((if_neg c_21).trans ((if_neg c_25).trans ((if_neg c_39).trans ((if_pos c_49).trans ((if_neg c_54).trans ((if_neg c_59).trans ((if_pos c_67).trans (rfl))))))))))
                        exact ih26 op wa go u_17 fault_72 u_43.1 u_43.2.1 u_43.2.2 sf _ _ _ ⟨(hrel26.trans (hst_73)), (by assumption), (by omega), (by first | assumption | exact ⟨by omega, Or.inr (Or.inr (by omega))⟩ | exact ⟨by omega, Or.inr (Or.inl (by assumption))⟩ | exact ⟨by omega, Or.inl rfl⟩), lv_sub hl [1, 2, 3, 4] rfl, (kk_sub hq [1, 0, 2, 3] rfl (by decide))⟩
              · skip
                refine lv_iconst (v := 4) hx hb dX8_reads_337 (by decide) ?_
                refine lv_goto (tgt := 346) hx hb dX8_reads_338 (by decide) ?_
                refine kk_Vv (As := [.int 4]) (rest := []) (wr := [(aNw, .inl (cNw, 139, .inr (.inl fNw)))]) ⟨hx, hb, hml, hown, hts⟩ (c_X8_workDown l G aM aVs aSg aNw rM_kept rM_isKept rM_refused rM_was cVs cSg 4 u_17 fl vn sm M_tells M_way M_wish M_moreTick M_moreForce M_runTurns M_runFirst M_runLast M_peak M_beside M_besideAt vf sf s0 s1 hvb v2) (kk_cwV 1 hts hsb wd_317 wd_318 wd_319 wd_5 wd_320 rfl rfl hd_X8_workDown ⟨Nat.le_of_ble_eq_true rfl, Nat.le_of_ble_eq_true rfl⟩) hA hK hq [2, 0, 1] [3] [1, 2] rfl rfl rfl (by decide) (by decide) (by decide) 0 8 rfl rfl rfl rfl hl.1 rfl (Nat.le_of_ble_eq_true rfl) dX8_reads_346 ⟨Nat.zero_le _, Nat.zero_le _⟩ (fun u_74 H locs h_76 hq => ?_)
                obtain ⟨eu_74, d0_u_74, d1_u_74, d2_u_74, d4_u_74, d5_u_74, d3_u_74⟩ := h_76
                have hq : kAt G A s [(aNw, .inl (cNw, 139, .inr (.inl fNw))), (aM, .inr (8, [.ref aNw, .ref rM_kept, .ref rM_isKept, .ref rM_refused, .int u_17, .int fl, .ref aVs, .int u_74.1, .ref aSg, .int u_74.2.1, .long M_tells, .int M_way, .int M_wish, .long M_moreTick, .long M_moreForce, .int M_runTurns, .long M_runFirst, .long M_runLast, .ref rM_was, .long M_peak, .long M_beside, .int M_besideAt])), (aVs, .inl (cVs, 64, .inr (.inl u_74.2.2))), (aSg, .inl (cSg, 128, .inl sf))] H locs := hq
                have riw := RI_wd ri0 d0_u_74 d1_u_74 d2_u_74 d4_u_74 d5_u_74
                have riwa := RI_wa riw hwa0
                have rvw := RI_v riw
                have d0_ := d0_u_74
                have sm9 : u_74.2.1.toInt < (128 : Nat) := by omega
                refine lv_iload hx hb dX8_reads_349 (lv_at hl 0 rfl) ?_
                refine kk_Si (As := [.int r_18]) (rest := []) (wr := [(aNw, .inl (cNw, 139, .inr (.inl fNw))), (aM, .inr (8, [.ref aNw, .ref rM_kept, .ref rM_isKept, .ref rM_refused, .int u_17, .int fl, .ref aVs, .int u_74.1, .ref aSg, .int u_74.2.1, .long M_tells, .int M_way, .int M_wish, .long M_moreTick, .long M_moreForce, .int M_runTurns, .long M_runFirst, .long M_runLast, .ref rM_was, .long M_peak, .long M_beside, .int M_besideAt])), (aVs, .inl (cVs, 64, .inr (.inl u_74.2.2))), (aSg, .inl (cSg, 128, .inl sf))]) ⟨hx, hb, hml, hown, hts⟩ (c_X8_rank l G r_18) (kk_cwS 1 hts hsb wd_321 wd_322 wd_5 wd_323 rfl rfl hd_X8_rank ⟨Nat.le_of_ble_eq_true rfl, Nat.le_of_ble_eq_true rfl⟩) hA hK hq [] [0, 1, 2, 3] [] rfl rfl rfl (by decide) (by decide) (by decide) rfl hl.1 rfl (Nat.le_of_ble_eq_true rfl) dX8_reads_351 ⟨Nat.zero_le _, Nat.zero_le _⟩ (fun r_78 u_77 H locs h_79 hq => ?_)
                have er_78 := h_79
                have hq : kAt G A s [(aNw, .inl (cNw, 139, .inr (.inl fNw))), (aM, .inr (8, [.ref aNw, .ref rM_kept, .ref rM_isKept, .ref rM_refused, .int u_17, .int fl, .ref aVs, .int u_74.1, .ref aSg, .int u_74.2.1, .long M_tells, .int M_way, .int M_wish, .long M_moreTick, .long M_moreForce, .int M_runTurns, .long M_runFirst, .long M_runLast, .ref rM_was, .long M_peak, .long M_beside, .int M_besideAt])), (aVs, .inl (cVs, 64, .inr (.inl u_74.2.2))), (aSg, .inl (cSg, 128, .inl sf))] H locs := hq
                refine lv_iconst (v := 3) hx hb dX8_reads_354 (by decide) ?_
                refine lv_icmp_ne (tgt := 416) hx hb dX8_reads_355 (by decide) (fun c_80 => ?_) (fun c_80 => ?_)
                · skip
                  refine lv_aload_n hx hb dX8_reads_416 rfl (lv_at hl 4 rfl) ?_
                  refine lv_dup hx hb dX8_reads_417 rfl ?_
                  refine kk_get (ci := 8) (v := .int u_17) (C := RX8) (T := TX8) (N := 22) hx hb hts iX8 hown hK hq 1 rfl rfl 4 (by decide) lk0_ rfl dX8_reads_418 ?_
                  refine lv_iconst (v := 1) hx hb dX8_reads_421 (by decide) ?_
                  refine lv_iadd hx hb dX8_reads_422 ?_
                  refine lv_topi (fun at_81 eat_81 => ?_)
                  refine kk_put (ws' := [(aNw, .inl (cNw, 139, .inr (.inl fNw))), (aM, .inr (8, [.ref aNw, .ref rM_kept, .ref rM_isKept, .ref rM_refused, .int at_81, .int fl, .ref aVs, .int u_74.1, .ref aSg, .int u_74.2.1, .long M_tells, .int M_way, .int M_wish, .long M_moreTick, .long M_moreForce, .int M_runTurns, .long M_runFirst, .long M_runLast, .ref rM_was, .long M_peak, .long M_beside, .int M_besideAt])), (aVs, .inl (cVs, 64, .inr (.inl u_74.2.2))), (aSg, .inl (cSg, 128, .inl sf))]) (ci := 8) (v := .int at_81) (C := RX8) (T := TX8) (N := 22) hx hb hts iX8 tyX8_ok nmX8 hown hK hq 1 rfl rfl 4 (by decide) lk0_ rfl rfl rfl (Nat.le_of_ble_eq_true rfl) dX8_reads_423 rfl (fun H locs hq => ?_)
                  have eAt := eat_81
                  have iAt : at_81.toInt = _ := (congrArg Int32.toInt eat_81).trans (kk_inc (by omega))
                  have iA6 : at_81.toInt ≤ 60 := by omega
                  refine lv_aload_n hx hb dX8_reads_426 rfl (lv_at hl 4 rfl) ?_
                  refine kk_get (ci := 8) (v := .ref aSg) (C := RX8) (T := TX8) (N := 22) hx hb hts iX8 hown hK hq 1 rfl rfl 8 (by decide) lk4_ rfl dX8_reads_427 ?_
                  refine lv_aload_n hx hb dX8_reads_430 rfl (lv_at hl 4 rfl) ?_
                  refine kk_get (ci := 8) (v := .int u_74.2.1) (C := RX8) (T := TX8) (N := 22) hx hb hts iX8 hown hK hq 1 rfl rfl 9 (by decide) lk3_ rfl dX8_reads_431 ?_
                  refine lv_iload hx hb dX8_reads_434 (lv_at hl 0 rfl) ?_
                  refine kk_iast (ws' := [(aNw, .inl (cNw, 139, .inr (.inl fNw))), (aM, .inr (8, [.ref aNw, .ref rM_kept, .ref rM_isKept, .ref rM_refused, .int at_81, .int fl, .ref aVs, .int u_74.1, .ref aSg, .int u_74.2.1, .long M_tells, .int M_way, .int M_wish, .long M_moreTick, .long M_moreForce, .int M_runTurns, .long M_runFirst, .long M_runLast, .ref rM_was, .long M_peak, .long M_beside, .int M_besideAt])), (aVs, .inl (cVs, 64, .inr (.inl u_74.2.2))), (aSg, .inl (cSg, 128, .inl (upd sf u_74.2.1.toNatClampNeg r_18)))]) hx hb hK hq 3 2 rfl rfl u_74.2.1.toNatClampNeg (kk_cl d0_) (kk_clt d0_ sm9) (by decide) dX8_reads_436 rfl (fun H locs hq => ?_)
                  obtain ⟨fSg_82, efSg_82⟩ : ∃ z : Nat → Int32, z = upd sf u_74.2.1.toNatClampNeg r_18 := ⟨_, rfl⟩
                  rw [← efSg_82] at hq
                  have eSf := efSg_82
                  refine lv_aload_n hx hb dX8_reads_437 rfl (lv_at hl 4 rfl) ?_
                  refine lv_dup hx hb dX8_reads_438 rfl ?_
                  refine kk_get (ci := 8) (v := .int u_74.2.1) (C := RX8) (T := TX8) (N := 22) hx hb hts iX8 hown hK hq 1 rfl rfl 9 (by decide) lk3_ rfl dX8_reads_439 ?_
                  refine lv_iconst (v := 1) hx hb dX8_reads_442 (by decide) ?_
                  refine lv_iadd hx hb dX8_reads_443 ?_
                  refine lv_topi (fun signMany_83 esignMany_83 => ?_)
                  refine kk_put (ws' := [(aNw, .inl (cNw, 139, .inr (.inl fNw))), (aM, .inr (8, [.ref aNw, .ref rM_kept, .ref rM_isKept, .ref rM_refused, .int at_81, .int fl, .ref aVs, .int u_74.1, .ref aSg, .int signMany_83, .long M_tells, .int M_way, .int M_wish, .long M_moreTick, .long M_moreForce, .int M_runTurns, .long M_runFirst, .long M_runLast, .ref rM_was, .long M_peak, .long M_beside, .int M_besideAt])), (aVs, .inl (cVs, 64, .inr (.inl u_74.2.2))), (aSg, .inl (cSg, 128, .inl fSg_82))]) (ci := 8) (v := .int signMany_83) (C := RX8) (T := TX8) (N := 22) hx hb hts iX8 tyX8_ok nmX8 hown hK hq 1 rfl rfl 9 (by decide) lk3_ rfl rfl rfl (Nat.le_of_ble_eq_true rfl) dX8_reads_444 rfl (fun H locs hq => ?_)
                  have riN := RI_bin riw h60 eAt esignMany_83 rk.1 rk.2.1
                  rw [← eSf] at riN
                  refine lv_iconst (v := 1) hx hb dX8_reads_447 (by decide) ?_
                  refine lv_istore_n (lv' := [(2, .int 1), (4, .int r_18), (3, .int go), (1, .int op), (0, .ref aM)]) hx hb dX8_reads_448 rfl hl (by decide) rfl (fun ls hl => ?_)
                  refine lv_goto (tgt := 485) hx hb dX8_reads_449 (by decide) ?_
                  refine lv_goto (tgt := 26) hx hb dX8_reads_485 (by decide) ?_
                  have hst_84 : lpX8_reads_26 fNw (N26 + 1) op wa go at_ fl vn sm vf sf = lpX8_reads_26 fNw N26 op 1 go at_81 fl u_74.1 signMany_83 u_74.2.2 fSg_82 := by
                    subst esignMany_83 efSg_82 eat_81 er_78 eu_74 er_37 er_23 eu_17 er_18
                    exact (if_neg c_1).trans ((if_pos c_9).trans ((if_pos c_20).trans ((if_neg c_21).trans ((if_neg c_25).trans ((if_pos c_39).trans ((if_neg c_80).trans (rfl)))))))
                  exact ih26 op 1 go at_81 fl u_74.1 signMany_83 u_74.2.2 fSg_82 _ _ _ ⟨(hrel26.trans (hst_84)), (by assumption), (by omega), (by first | assumption | exact ⟨by omega, Or.inr (Or.inr (by omega))⟩ | exact ⟨by omega, Or.inr (Or.inl (by assumption))⟩ | exact ⟨by omega, Or.inl rfl⟩), lv_sub hl [2, 0, 3, 4] rfl, (kk_sub hq [1, 0, 2, 3] rfl (by decide))⟩
                · skip
                  refine lv_aload_n hx hb dX8_reads_358 rfl (lv_at hl 4 rfl) ?_
                  refine kk_get (ci := 8) (v := .int u_74.2.1) (C := RX8) (T := TX8) (N := 22) hx hb hts iX8 hown hK hq 1 rfl rfl 9 (by decide) lk3_ rfl dX8_reads_359 ?_
                  refine lv_if_le (tgt := 416) hx hb dX8_reads_362 (by decide) (fun c_85 => ?_) (fun c_85 => ?_)
                  · skip
                    refine lv_aload_n hx hb dX8_reads_416 rfl (lv_at hl 4 rfl) ?_
                    refine lv_dup hx hb dX8_reads_417 rfl ?_
                    refine kk_get (ci := 8) (v := .int u_17) (C := RX8) (T := TX8) (N := 22) hx hb hts iX8 hown hK hq 1 rfl rfl 4 (by decide) lk0_ rfl dX8_reads_418 ?_
                    refine lv_iconst (v := 1) hx hb dX8_reads_421 (by decide) ?_
                    refine lv_iadd hx hb dX8_reads_422 ?_
                    refine lv_topi (fun at_86 eat_86 => ?_)
                    refine kk_put (ws' := [(aNw, .inl (cNw, 139, .inr (.inl fNw))), (aM, .inr (8, [.ref aNw, .ref rM_kept, .ref rM_isKept, .ref rM_refused, .int at_86, .int fl, .ref aVs, .int u_74.1, .ref aSg, .int u_74.2.1, .long M_tells, .int M_way, .int M_wish, .long M_moreTick, .long M_moreForce, .int M_runTurns, .long M_runFirst, .long M_runLast, .ref rM_was, .long M_peak, .long M_beside, .int M_besideAt])), (aVs, .inl (cVs, 64, .inr (.inl u_74.2.2))), (aSg, .inl (cSg, 128, .inl sf))]) (ci := 8) (v := .int at_86) (C := RX8) (T := TX8) (N := 22) hx hb hts iX8 tyX8_ok nmX8 hown hK hq 1 rfl rfl 4 (by decide) lk0_ rfl rfl rfl (Nat.le_of_ble_eq_true rfl) dX8_reads_423 rfl (fun H locs hq => ?_)
                    have eAt := eat_86
                    have iAt : at_86.toInt = _ := (congrArg Int32.toInt eat_86).trans (kk_inc (by omega))
                    have iA6 : at_86.toInt ≤ 60 := by omega
                    refine lv_aload_n hx hb dX8_reads_426 rfl (lv_at hl 4 rfl) ?_
                    refine kk_get (ci := 8) (v := .ref aSg) (C := RX8) (T := TX8) (N := 22) hx hb hts iX8 hown hK hq 1 rfl rfl 8 (by decide) lk4_ rfl dX8_reads_427 ?_
                    refine lv_aload_n hx hb dX8_reads_430 rfl (lv_at hl 4 rfl) ?_
                    refine kk_get (ci := 8) (v := .int u_74.2.1) (C := RX8) (T := TX8) (N := 22) hx hb hts iX8 hown hK hq 1 rfl rfl 9 (by decide) lk3_ rfl dX8_reads_431 ?_
                    refine lv_iload hx hb dX8_reads_434 (lv_at hl 0 rfl) ?_
                    refine kk_iast (ws' := [(aNw, .inl (cNw, 139, .inr (.inl fNw))), (aM, .inr (8, [.ref aNw, .ref rM_kept, .ref rM_isKept, .ref rM_refused, .int at_86, .int fl, .ref aVs, .int u_74.1, .ref aSg, .int u_74.2.1, .long M_tells, .int M_way, .int M_wish, .long M_moreTick, .long M_moreForce, .int M_runTurns, .long M_runFirst, .long M_runLast, .ref rM_was, .long M_peak, .long M_beside, .int M_besideAt])), (aVs, .inl (cVs, 64, .inr (.inl u_74.2.2))), (aSg, .inl (cSg, 128, .inl (upd sf u_74.2.1.toNatClampNeg r_18)))]) hx hb hK hq 3 2 rfl rfl u_74.2.1.toNatClampNeg (kk_cl d0_) (kk_clt d0_ sm9) (by decide) dX8_reads_436 rfl (fun H locs hq => ?_)
                    obtain ⟨fSg_87, efSg_87⟩ : ∃ z : Nat → Int32, z = upd sf u_74.2.1.toNatClampNeg r_18 := ⟨_, rfl⟩
                    rw [← efSg_87] at hq
                    have eSf := efSg_87
                    refine lv_aload_n hx hb dX8_reads_437 rfl (lv_at hl 4 rfl) ?_
                    refine lv_dup hx hb dX8_reads_438 rfl ?_
                    refine kk_get (ci := 8) (v := .int u_74.2.1) (C := RX8) (T := TX8) (N := 22) hx hb hts iX8 hown hK hq 1 rfl rfl 9 (by decide) lk3_ rfl dX8_reads_439 ?_
                    refine lv_iconst (v := 1) hx hb dX8_reads_442 (by decide) ?_
                    refine lv_iadd hx hb dX8_reads_443 ?_
                    refine lv_topi (fun signMany_88 esignMany_88 => ?_)
                    refine kk_put (ws' := [(aNw, .inl (cNw, 139, .inr (.inl fNw))), (aM, .inr (8, [.ref aNw, .ref rM_kept, .ref rM_isKept, .ref rM_refused, .int at_86, .int fl, .ref aVs, .int u_74.1, .ref aSg, .int signMany_88, .long M_tells, .int M_way, .int M_wish, .long M_moreTick, .long M_moreForce, .int M_runTurns, .long M_runFirst, .long M_runLast, .ref rM_was, .long M_peak, .long M_beside, .int M_besideAt])), (aVs, .inl (cVs, 64, .inr (.inl u_74.2.2))), (aSg, .inl (cSg, 128, .inl fSg_87))]) (ci := 8) (v := .int signMany_88) (C := RX8) (T := TX8) (N := 22) hx hb hts iX8 tyX8_ok nmX8 hown hK hq 1 rfl rfl 9 (by decide) lk3_ rfl rfl rfl (Nat.le_of_ble_eq_true rfl) dX8_reads_444 rfl (fun H locs hq => ?_)
                    have riN := RI_bin riw h60 eAt esignMany_88 rk.1 rk.2.1
                    rw [← eSf] at riN
                    refine lv_iconst (v := 1) hx hb dX8_reads_447 (by decide) ?_
                    refine lv_istore_n (lv' := [(2, .int 1), (4, .int r_18), (3, .int go), (1, .int op), (0, .ref aM)]) hx hb dX8_reads_448 rfl hl (by decide) rfl (fun ls hl => ?_)
                    refine lv_goto (tgt := 485) hx hb dX8_reads_449 (by decide) ?_
                    refine lv_goto (tgt := 26) hx hb dX8_reads_485 (by decide) ?_
                    have hst_89 : lpX8_reads_26 fNw (N26 + 1) op wa go at_ fl vn sm vf sf = lpX8_reads_26 fNw N26 op 1 go at_86 fl u_74.1 signMany_88 u_74.2.2 fSg_87 := by
                      subst esignMany_88 efSg_87 eat_86 er_78 eu_74 er_37 er_23 eu_17 er_18
                      exact (if_neg c_1).trans ((if_pos c_9).trans ((if_pos c_20).trans ((if_neg c_21).trans ((if_neg c_25).trans ((if_pos c_39).trans ((if_pos c_80).trans ((if_pos c_85).trans (rfl))))))))
                    exact ih26 op 1 go at_86 fl u_74.1 signMany_88 u_74.2.2 fSg_87 _ _ _ ⟨(hrel26.trans (hst_89)), (by assumption), (by omega), (by first | assumption | exact ⟨by omega, Or.inr (Or.inr (by omega))⟩ | exact ⟨by omega, Or.inr (Or.inl (by assumption))⟩ | exact ⟨by omega, Or.inl rfl⟩), lv_sub hl [2, 0, 3, 4] rfl, (kk_sub hq [1, 0, 2, 3] rfl (by decide))⟩
                  · skip
                    have hpp := kk_nle2 (k := 0) rfl c_85
                    have hp := dec_b (n := (128 : Nat)) rfl hpp (by omega)
                    refine lv_aload_n hx hb dX8_reads_365 rfl (lv_at hl 4 rfl) ?_
                    refine kk_get (ci := 8) (v := .ref aSg) (C := RX8) (T := TX8) (N := 22) hx hb hts iX8 hown hK hq 1 rfl rfl 8 (by decide) lk4_ rfl dX8_reads_366 ?_
                    refine lv_aload_n hx hb dX8_reads_369 rfl (lv_at hl 4 rfl) ?_
                    refine kk_get (ci := 8) (v := .int u_74.2.1) (C := RX8) (T := TX8) (N := 22) hx hb hts iX8 hown hK hq 1 rfl rfl 9 (by decide) lk3_ rfl dX8_reads_370 ?_
                    refine lv_iconst (v := 1) hx hb dX8_reads_373 (by decide) ?_
                    refine lv_isub hx hb dX8_reads_374 ?_
                    refine kk_iald hx hb hK hq 3 2 rfl rfl ((u_74.2.1 - 1).toNatClampNeg) (kk_cl hp.1) (kk_clt hp.1 hp.2.1) (by decide) dX8_reads_375 ?_
                    refine lv_sipush (v := 1000) hx hb dX8_reads_376 (by decide) ?_
                    refine lv_icmp_ge (tgt := 416) hx hb dX8_reads_379 (by decide) (fun c_90 => ?_) (fun c_90 => ?_)
                    · skip
                      refine lv_aload_n hx hb dX8_reads_416 rfl (lv_at hl 4 rfl) ?_
                      refine lv_dup hx hb dX8_reads_417 rfl ?_
                      refine kk_get (ci := 8) (v := .int u_17) (C := RX8) (T := TX8) (N := 22) hx hb hts iX8 hown hK hq 1 rfl rfl 4 (by decide) lk0_ rfl dX8_reads_418 ?_
                      refine lv_iconst (v := 1) hx hb dX8_reads_421 (by decide) ?_
                      refine lv_iadd hx hb dX8_reads_422 ?_
                      refine lv_topi (fun at_91 eat_91 => ?_)
                      refine kk_put (ws' := [(aNw, .inl (cNw, 139, .inr (.inl fNw))), (aM, .inr (8, [.ref aNw, .ref rM_kept, .ref rM_isKept, .ref rM_refused, .int at_91, .int fl, .ref aVs, .int u_74.1, .ref aSg, .int u_74.2.1, .long M_tells, .int M_way, .int M_wish, .long M_moreTick, .long M_moreForce, .int M_runTurns, .long M_runFirst, .long M_runLast, .ref rM_was, .long M_peak, .long M_beside, .int M_besideAt])), (aVs, .inl (cVs, 64, .inr (.inl u_74.2.2))), (aSg, .inl (cSg, 128, .inl sf))]) (ci := 8) (v := .int at_91) (C := RX8) (T := TX8) (N := 22) hx hb hts iX8 tyX8_ok nmX8 hown hK hq 1 rfl rfl 4 (by decide) lk0_ rfl rfl rfl (Nat.le_of_ble_eq_true rfl) dX8_reads_423 rfl (fun H locs hq => ?_)
                      have eAt := eat_91
                      have iAt : at_91.toInt = _ := (congrArg Int32.toInt eat_91).trans (kk_inc (by omega))
                      have iA6 : at_91.toInt ≤ 60 := by omega
                      refine lv_aload_n hx hb dX8_reads_426 rfl (lv_at hl 4 rfl) ?_
                      refine kk_get (ci := 8) (v := .ref aSg) (C := RX8) (T := TX8) (N := 22) hx hb hts iX8 hown hK hq 1 rfl rfl 8 (by decide) lk4_ rfl dX8_reads_427 ?_
                      refine lv_aload_n hx hb dX8_reads_430 rfl (lv_at hl 4 rfl) ?_
                      refine kk_get (ci := 8) (v := .int u_74.2.1) (C := RX8) (T := TX8) (N := 22) hx hb hts iX8 hown hK hq 1 rfl rfl 9 (by decide) lk3_ rfl dX8_reads_431 ?_
                      refine lv_iload hx hb dX8_reads_434 (lv_at hl 0 rfl) ?_
                      refine kk_iast (ws' := [(aNw, .inl (cNw, 139, .inr (.inl fNw))), (aM, .inr (8, [.ref aNw, .ref rM_kept, .ref rM_isKept, .ref rM_refused, .int at_91, .int fl, .ref aVs, .int u_74.1, .ref aSg, .int u_74.2.1, .long M_tells, .int M_way, .int M_wish, .long M_moreTick, .long M_moreForce, .int M_runTurns, .long M_runFirst, .long M_runLast, .ref rM_was, .long M_peak, .long M_beside, .int M_besideAt])), (aVs, .inl (cVs, 64, .inr (.inl u_74.2.2))), (aSg, .inl (cSg, 128, .inl (upd sf u_74.2.1.toNatClampNeg r_18)))]) hx hb hK hq 3 2 rfl rfl u_74.2.1.toNatClampNeg (kk_cl d0_) (kk_clt d0_ sm9) (by decide) dX8_reads_436 rfl (fun H locs hq => ?_)
                      obtain ⟨fSg_92, efSg_92⟩ : ∃ z : Nat → Int32, z = upd sf u_74.2.1.toNatClampNeg r_18 := ⟨_, rfl⟩
                      rw [← efSg_92] at hq
                      have eSf := efSg_92
                      refine lv_aload_n hx hb dX8_reads_437 rfl (lv_at hl 4 rfl) ?_
                      refine lv_dup hx hb dX8_reads_438 rfl ?_
                      refine kk_get (ci := 8) (v := .int u_74.2.1) (C := RX8) (T := TX8) (N := 22) hx hb hts iX8 hown hK hq 1 rfl rfl 9 (by decide) lk3_ rfl dX8_reads_439 ?_
                      refine lv_iconst (v := 1) hx hb dX8_reads_442 (by decide) ?_
                      refine lv_iadd hx hb dX8_reads_443 ?_
                      refine lv_topi (fun signMany_93 esignMany_93 => ?_)
                      refine kk_put (ws' := [(aNw, .inl (cNw, 139, .inr (.inl fNw))), (aM, .inr (8, [.ref aNw, .ref rM_kept, .ref rM_isKept, .ref rM_refused, .int at_91, .int fl, .ref aVs, .int u_74.1, .ref aSg, .int signMany_93, .long M_tells, .int M_way, .int M_wish, .long M_moreTick, .long M_moreForce, .int M_runTurns, .long M_runFirst, .long M_runLast, .ref rM_was, .long M_peak, .long M_beside, .int M_besideAt])), (aVs, .inl (cVs, 64, .inr (.inl u_74.2.2))), (aSg, .inl (cSg, 128, .inl fSg_92))]) (ci := 8) (v := .int signMany_93) (C := RX8) (T := TX8) (N := 22) hx hb hts iX8 tyX8_ok nmX8 hown hK hq 1 rfl rfl 9 (by decide) lk3_ rfl rfl rfl (Nat.le_of_ble_eq_true rfl) dX8_reads_444 rfl (fun H locs hq => ?_)
                      have riN := RI_bin riw h60 eAt esignMany_93 rk.1 rk.2.1
                      rw [← eSf] at riN
                      refine lv_iconst (v := 1) hx hb dX8_reads_447 (by decide) ?_
                      refine lv_istore_n (lv' := [(2, .int 1), (4, .int r_18), (3, .int go), (1, .int op), (0, .ref aM)]) hx hb dX8_reads_448 rfl hl (by decide) rfl (fun ls hl => ?_)
                      refine lv_goto (tgt := 485) hx hb dX8_reads_449 (by decide) ?_
                      refine lv_goto (tgt := 26) hx hb dX8_reads_485 (by decide) ?_
                      have hst_94 : lpX8_reads_26 fNw (N26 + 1) op wa go at_ fl vn sm vf sf = lpX8_reads_26 fNw N26 op 1 go at_91 fl u_74.1 signMany_93 u_74.2.2 fSg_92 := by
                        subst esignMany_93 efSg_92 eat_91 er_78 eu_74 er_37 er_23 eu_17 er_18
                        exact (if_neg c_1).trans ((if_pos c_9).trans ((if_pos c_20).trans ((if_neg c_21).trans ((if_neg c_25).trans ((if_pos c_39).trans ((if_pos c_80).trans ((if_neg c_85).trans ((if_pos c_90).trans (rfl)))))))))
                      exact ih26 op 1 go at_91 fl u_74.1 signMany_93 u_74.2.2 fSg_92 _ _ _ ⟨(hrel26.trans (hst_94)), (by assumption), (by omega), (by first | assumption | exact ⟨by omega, Or.inr (Or.inr (by omega))⟩ | exact ⟨by omega, Or.inr (Or.inl (by assumption))⟩ | exact ⟨by omega, Or.inl rfl⟩), lv_sub hl [2, 0, 3, 4] rfl, (kk_sub hq [1, 0, 2, 3] rfl (by decide))⟩
                    · skip
                      refine lv_aload_n hx hb dX8_reads_382 rfl (lv_at hl 4 rfl) ?_
                      refine kk_get (ci := 8) (v := .ref aSg) (C := RX8) (T := TX8) (N := 22) hx hb hts iX8 hown hK hq 1 rfl rfl 8 (by decide) lk4_ rfl dX8_reads_383 ?_
                      refine lv_aload_n hx hb dX8_reads_386 rfl (lv_at hl 4 rfl) ?_
                      refine kk_get (ci := 8) (v := .int u_74.2.1) (C := RX8) (T := TX8) (N := 22) hx hb hts iX8 hown hK hq 1 rfl rfl 9 (by decide) lk3_ rfl dX8_reads_387 ?_
                      refine lv_iconst (v := 1) hx hb dX8_reads_390 (by decide) ?_
                      refine lv_isub hx hb dX8_reads_391 ?_
                      refine kk_iald hx hb hK hq 3 2 rfl rfl ((u_74.2.1 - 1).toNatClampNeg) (kk_cl hp.1) (kk_clt hp.1 hp.2.1) (by decide) dX8_reads_392 ?_
                      refine kk_Si (As := [.int (sf ((u_74.2.1 - 1).toNatClampNeg))]) (rest := []) (wr := [(aNw, .inl (cNw, 139, .inr (.inl fNw))), (aM, .inr (8, [.ref aNw, .ref rM_kept, .ref rM_isKept, .ref rM_refused, .int u_17, .int fl, .ref aVs, .int u_74.1, .ref aSg, .int u_74.2.1, .long M_tells, .int M_way, .int M_wish, .long M_moreTick, .long M_moreForce, .int M_runTurns, .long M_runFirst, .long M_runLast, .ref rM_was, .long M_peak, .long M_beside, .int M_besideAt])), (aVs, .inl (cVs, 64, .inr (.inl u_74.2.2))), (aSg, .inl (cSg, 128, .inl sf))]) ⟨hx, hb, hml, hown, hts⟩ (c_X8_rank l G (sf ((u_74.2.1 - 1).toNatClampNeg))) (kk_cwS 1 hts hsb wd_321 wd_322 wd_5 wd_323 rfl rfl hd_X8_rank ⟨Nat.le_of_ble_eq_true rfl, Nat.le_of_ble_eq_true rfl⟩) hA hK hq [] [0, 1, 2, 3] [] rfl rfl rfl (by decide) (by decide) (by decide) rfl hl.1 rfl (Nat.le_of_ble_eq_true rfl) dX8_reads_393 ⟨Nat.zero_le _, Nat.zero_le _⟩ (fun r_96 u_95 H locs h_97 hq => ?_)
                      have er_96 := h_97
                      have hq : kAt G A s [(aNw, .inl (cNw, 139, .inr (.inl fNw))), (aM, .inr (8, [.ref aNw, .ref rM_kept, .ref rM_isKept, .ref rM_refused, .int u_17, .int fl, .ref aVs, .int u_74.1, .ref aSg, .int u_74.2.1, .long M_tells, .int M_way, .int M_wish, .long M_moreTick, .long M_moreForce, .int M_runTurns, .long M_runFirst, .long M_runLast, .ref rM_was, .long M_peak, .long M_beside, .int M_besideAt])), (aVs, .inl (cVs, 64, .inr (.inl u_74.2.2))), (aSg, .inl (cSg, 128, .inl sf))] H locs := hq
                      refine lv_iconst (v := 3) hx hb dX8_reads_396 (by decide) ?_
                      refine lv_icmp_ne (tgt := 416) hx hb dX8_reads_397 (by decide) (fun c_98 => ?_) (fun c_98 => ?_)
                      · skip
                        refine lv_aload_n hx hb dX8_reads_416 rfl (lv_at hl 4 rfl) ?_
                        refine lv_dup hx hb dX8_reads_417 rfl ?_
                        refine kk_get (ci := 8) (v := .int u_17) (C := RX8) (T := TX8) (N := 22) hx hb hts iX8 hown hK hq 1 rfl rfl 4 (by decide) lk0_ rfl dX8_reads_418 ?_
                        refine lv_iconst (v := 1) hx hb dX8_reads_421 (by decide) ?_
                        refine lv_iadd hx hb dX8_reads_422 ?_
                        refine lv_topi (fun at_99 eat_99 => ?_)
                        refine kk_put (ws' := [(aNw, .inl (cNw, 139, .inr (.inl fNw))), (aM, .inr (8, [.ref aNw, .ref rM_kept, .ref rM_isKept, .ref rM_refused, .int at_99, .int fl, .ref aVs, .int u_74.1, .ref aSg, .int u_74.2.1, .long M_tells, .int M_way, .int M_wish, .long M_moreTick, .long M_moreForce, .int M_runTurns, .long M_runFirst, .long M_runLast, .ref rM_was, .long M_peak, .long M_beside, .int M_besideAt])), (aVs, .inl (cVs, 64, .inr (.inl u_74.2.2))), (aSg, .inl (cSg, 128, .inl sf))]) (ci := 8) (v := .int at_99) (C := RX8) (T := TX8) (N := 22) hx hb hts iX8 tyX8_ok nmX8 hown hK hq 1 rfl rfl 4 (by decide) lk0_ rfl rfl rfl (Nat.le_of_ble_eq_true rfl) dX8_reads_423 rfl (fun H locs hq => ?_)
                        have eAt := eat_99
                        have iAt : at_99.toInt = _ := (congrArg Int32.toInt eat_99).trans (kk_inc (by omega))
                        have iA6 : at_99.toInt ≤ 60 := by omega
                        refine lv_aload_n hx hb dX8_reads_426 rfl (lv_at hl 4 rfl) ?_
                        refine kk_get (ci := 8) (v := .ref aSg) (C := RX8) (T := TX8) (N := 22) hx hb hts iX8 hown hK hq 1 rfl rfl 8 (by decide) lk4_ rfl dX8_reads_427 ?_
                        refine lv_aload_n hx hb dX8_reads_430 rfl (lv_at hl 4 rfl) ?_
                        refine kk_get (ci := 8) (v := .int u_74.2.1) (C := RX8) (T := TX8) (N := 22) hx hb hts iX8 hown hK hq 1 rfl rfl 9 (by decide) lk3_ rfl dX8_reads_431 ?_
                        refine lv_iload hx hb dX8_reads_434 (lv_at hl 0 rfl) ?_
                        refine kk_iast (ws' := [(aNw, .inl (cNw, 139, .inr (.inl fNw))), (aM, .inr (8, [.ref aNw, .ref rM_kept, .ref rM_isKept, .ref rM_refused, .int at_99, .int fl, .ref aVs, .int u_74.1, .ref aSg, .int u_74.2.1, .long M_tells, .int M_way, .int M_wish, .long M_moreTick, .long M_moreForce, .int M_runTurns, .long M_runFirst, .long M_runLast, .ref rM_was, .long M_peak, .long M_beside, .int M_besideAt])), (aVs, .inl (cVs, 64, .inr (.inl u_74.2.2))), (aSg, .inl (cSg, 128, .inl (upd sf u_74.2.1.toNatClampNeg r_18)))]) hx hb hK hq 3 2 rfl rfl u_74.2.1.toNatClampNeg (kk_cl d0_) (kk_clt d0_ sm9) (by decide) dX8_reads_436 rfl (fun H locs hq => ?_)
                        obtain ⟨fSg_100, efSg_100⟩ : ∃ z : Nat → Int32, z = upd sf u_74.2.1.toNatClampNeg r_18 := ⟨_, rfl⟩
                        rw [← efSg_100] at hq
                        have eSf := efSg_100
                        refine lv_aload_n hx hb dX8_reads_437 rfl (lv_at hl 4 rfl) ?_
                        refine lv_dup hx hb dX8_reads_438 rfl ?_
                        refine kk_get (ci := 8) (v := .int u_74.2.1) (C := RX8) (T := TX8) (N := 22) hx hb hts iX8 hown hK hq 1 rfl rfl 9 (by decide) lk3_ rfl dX8_reads_439 ?_
                        refine lv_iconst (v := 1) hx hb dX8_reads_442 (by decide) ?_
                        refine lv_iadd hx hb dX8_reads_443 ?_
                        refine lv_topi (fun signMany_101 esignMany_101 => ?_)
                        refine kk_put (ws' := [(aNw, .inl (cNw, 139, .inr (.inl fNw))), (aM, .inr (8, [.ref aNw, .ref rM_kept, .ref rM_isKept, .ref rM_refused, .int at_99, .int fl, .ref aVs, .int u_74.1, .ref aSg, .int signMany_101, .long M_tells, .int M_way, .int M_wish, .long M_moreTick, .long M_moreForce, .int M_runTurns, .long M_runFirst, .long M_runLast, .ref rM_was, .long M_peak, .long M_beside, .int M_besideAt])), (aVs, .inl (cVs, 64, .inr (.inl u_74.2.2))), (aSg, .inl (cSg, 128, .inl fSg_100))]) (ci := 8) (v := .int signMany_101) (C := RX8) (T := TX8) (N := 22) hx hb hts iX8 tyX8_ok nmX8 hown hK hq 1 rfl rfl 9 (by decide) lk3_ rfl rfl rfl (Nat.le_of_ble_eq_true rfl) dX8_reads_444 rfl (fun H locs hq => ?_)
                        have riN := RI_bin riw h60 eAt esignMany_101 rk.1 rk.2.1
                        rw [← eSf] at riN
                        refine lv_iconst (v := 1) hx hb dX8_reads_447 (by decide) ?_
                        refine lv_istore_n (lv' := [(2, .int 1), (4, .int r_18), (3, .int go), (1, .int op), (0, .ref aM)]) hx hb dX8_reads_448 rfl hl (by decide) rfl (fun ls hl => ?_)
                        refine lv_goto (tgt := 485) hx hb dX8_reads_449 (by decide) ?_
                        refine lv_goto (tgt := 26) hx hb dX8_reads_485 (by decide) ?_
                        have hst_102 : lpX8_reads_26 fNw (N26 + 1) op wa go at_ fl vn sm vf sf = lpX8_reads_26 fNw N26 op 1 go at_99 fl u_74.1 signMany_101 u_74.2.2 fSg_100 := by
                          subst esignMany_101 efSg_100 eat_99 er_96 er_78 eu_74 er_37 er_23 eu_17 er_18
                          exact (if_neg c_1).trans ((if_pos c_9).trans ((if_pos c_20).trans ((if_neg c_21).trans ((if_neg c_25).trans ((if_pos c_39).trans ((if_pos c_80).trans ((if_neg c_85).trans ((if_neg c_90).trans ((if_neg c_98).trans (rfl))))))))))
                        exact ih26 op 1 go at_99 fl u_74.1 signMany_101 u_74.2.2 fSg_100 _ _ _ ⟨(hrel26.trans (hst_102)), (by assumption), (by omega), (by first | assumption | exact ⟨by omega, Or.inr (Or.inr (by omega))⟩ | exact ⟨by omega, Or.inr (Or.inl (by assumption))⟩ | exact ⟨by omega, Or.inl rfl⟩), lv_sub hl [2, 0, 3, 4] rfl, (kk_sub hq [1, 0, 2, 3] rfl (by decide))⟩
                      · skip
                        refine lv_aload_n hx hb dX8_reads_400 rfl (lv_at hl 4 rfl) ?_
                        refine lv_bipush (v := 10) hx hb dX8_reads_401 (by decide) ?_
                        refine lv_aload_n hx hb dX8_reads_403 rfl (lv_at hl 4 rfl) ?_
                        refine kk_get (ci := 8) (v := .int u_17) (C := RX8) (T := TX8) (N := 22) hx hb hts iX8 hown hK hq 1 rfl rfl 4 (by decide) lk0_ rfl dX8_reads_404 ?_
                        refine lv_imul hx hb dX8_reads_407 ?_
                        refine lv_iconst (v := 1) hx hb dX8_reads_408 (by decide) ?_
                        refine lv_iadd hx hb dX8_reads_409 ?_
                        refine lv_topi (fun fault_103 efault_103 => ?_)
                        refine kk_put (ws' := [(aNw, .inl (cNw, 139, .inr (.inl fNw))), (aM, .inr (8, [.ref aNw, .ref rM_kept, .ref rM_isKept, .ref rM_refused, .int u_17, .int fault_103, .ref aVs, .int u_74.1, .ref aSg, .int u_74.2.1, .long M_tells, .int M_way, .int M_wish, .long M_moreTick, .long M_moreForce, .int M_runTurns, .long M_runFirst, .long M_runLast, .ref rM_was, .long M_peak, .long M_beside, .int M_besideAt])), (aVs, .inl (cVs, 64, .inr (.inl u_74.2.2))), (aSg, .inl (cSg, 128, .inl sf))]) (ci := 8) (v := .int fault_103) (C := RX8) (T := TX8) (N := 22) hx hb hts iX8 tyX8_ok nmX8 hown hK hq 1 rfl rfl 5 (by decide) lk1_ rfl rfl rfl (Nat.le_of_ble_eq_true rfl) dX8_reads_410 rfl (fun H locs hq => ?_)
                        have hflt := fl_ne (k := 1) efault_103 u0 u1 (by decide) (by decide)
                        refine lv_goto (tgt := 485) hx hb dX8_reads_413 (by decide) ?_
                        refine lv_goto (tgt := 26) hx hb dX8_reads_485 (by decide) ?_
                        have hst_104 : lpX8_reads_26 fNw (N26 + 1) op wa go at_ fl vn sm vf sf = lpX8_reads_26 fNw N26 op wa go u_17 fault_103 u_74.1 u_74.2.1 u_74.2.2 sf := by
                          subst efault_103 er_96 er_78 eu_74 er_37 er_23 eu_17 er_18
                          exact (if_neg c_1).trans ((if_pos c_9).trans ((if_pos c_20).trans ((if_neg c_21).trans ((if_neg c_25).trans ((if_pos c_39).trans ((if_pos c_80).trans ((if_neg c_85).trans ((if_neg c_90).trans ((if_pos c_98).trans (rfl))))))))))
                        exact ih26 op wa go u_17 fault_103 u_74.1 u_74.2.1 u_74.2.2 sf _ _ _ ⟨(hrel26.trans (hst_104)), (by assumption), (by omega), (by first | assumption | exact ⟨by omega, Or.inr (Or.inr (by omega))⟩ | exact ⟨by omega, Or.inr (Or.inl (by assumption))⟩ | exact ⟨by omega, Or.inl rfl⟩), lv_sub hl [1, 2, 3, 4] rfl, (kk_sub hq [1, 0, 2, 3] rfl (by decide))⟩
          · skip
            have hc41 := c_21
            refine lv_iload_n hx hb dX8_reads_261 rfl (lv_at hl 3 rfl) ?_
            refine lv_if_le (tgt := 319) hx hb dX8_reads_262 (by decide) (fun c_105 => ?_) (fun c_105 => ?_)
            · skip
              refine lv_iload hx hb dX8_reads_319 (lv_at hl 0 rfl) ?_
              refine kk_Si (As := [.int r_18]) (rest := []) (wr := [(aVs, .inl (cVs, 64, .inr (.inl vf))), (aSg, .inl (cSg, 128, .inl sf)), (aM, .inr (8, [.ref aNw, .ref rM_kept, .ref rM_isKept, .ref rM_refused, .int u_17, .int fl, .ref aVs, .int vn, .ref aSg, .int sm, .long M_tells, .int M_way, .int M_wish, .long M_moreTick, .long M_moreForce, .int M_runTurns, .long M_runFirst, .long M_runLast, .ref rM_was, .long M_peak, .long M_beside, .int M_besideAt])), (aNw, .inl (cNw, 139, .inr (.inl fNw)))]) ⟨hx, hb, hml, hown, hts⟩ (c_X8_rank l G r_18) (kk_cwS 1 hts hsb wd_321 wd_322 wd_5 wd_323 rfl rfl hd_X8_rank ⟨Nat.le_of_ble_eq_true rfl, Nat.le_of_ble_eq_true rfl⟩) hA hK hq [] [0, 1, 2, 3] [] rfl rfl rfl (by decide) (by decide) (by decide) rfl hl.1 rfl (Nat.le_of_ble_eq_true rfl) dX8_reads_321 ⟨Nat.zero_le _, Nat.zero_le _⟩ (fun r_107 u_106 H locs h_108 hq => ?_)
              have er_107 := h_108
              have hq : kAt G A s [(aVs, .inl (cVs, 64, .inr (.inl vf))), (aSg, .inl (cSg, 128, .inl sf)), (aM, .inr (8, [.ref aNw, .ref rM_kept, .ref rM_isKept, .ref rM_refused, .int u_17, .int fl, .ref aVs, .int vn, .ref aSg, .int sm, .long M_tells, .int M_way, .int M_wish, .long M_moreTick, .long M_moreForce, .int M_runTurns, .long M_runFirst, .long M_runLast, .ref rM_was, .long M_peak, .long M_beside, .int M_besideAt])), (aNw, .inl (cNw, 139, .inr (.inl fNw)))] H locs := hq
              have hr1 := er_107
              refine lv_if_le (tgt := 452) hx hb dX8_reads_324 (by decide) (fun c_109 => ?_) (fun c_109 => ?_)
              · skip
                refine lv_iload hx hb dX8_reads_452 (lv_at hl 0 rfl) ?_
                refine lv_iconst (v := -1) hx hb dX8_reads_454 (by decide) ?_
                refine lv_icmp_ne (tgt := 472) hx hb dX8_reads_455 (by decide) (fun c_110 => ?_) (fun c_110 => ?_)
                · skip
                  refine lv_aload_n hx hb dX8_reads_472 rfl (lv_at hl 4 rfl) ?_
                  refine lv_bipush (v := 10) hx hb dX8_reads_473 (by decide) ?_
                  refine lv_aload_n hx hb dX8_reads_475 rfl (lv_at hl 4 rfl) ?_
                  refine kk_get (ci := 8) (v := .int u_17) (C := RX8) (T := TX8) (N := 22) hx hb hts iX8 hown hK hq 2 rfl rfl 4 (by decide) lk0_ rfl dX8_reads_476 ?_
                  refine lv_imul hx hb dX8_reads_479 ?_
                  refine lv_iconst (v := 1) hx hb dX8_reads_480 (by decide) ?_
                  refine lv_iadd hx hb dX8_reads_481 ?_
                  refine lv_topi (fun fault_111 efault_111 => ?_)
                  refine kk_put (ws' := [(aVs, .inl (cVs, 64, .inr (.inl vf))), (aSg, .inl (cSg, 128, .inl sf)), (aM, .inr (8, [.ref aNw, .ref rM_kept, .ref rM_isKept, .ref rM_refused, .int u_17, .int fault_111, .ref aVs, .int vn, .ref aSg, .int sm, .long M_tells, .int M_way, .int M_wish, .long M_moreTick, .long M_moreForce, .int M_runTurns, .long M_runFirst, .long M_runLast, .ref rM_was, .long M_peak, .long M_beside, .int M_besideAt])), (aNw, .inl (cNw, 139, .inr (.inl fNw)))]) (ci := 8) (v := .int fault_111) (C := RX8) (T := TX8) (N := 22) hx hb hts iX8 tyX8_ok nmX8 hown hK hq 2 rfl rfl 5 (by decide) lk1_ rfl rfl rfl (Nat.le_of_ble_eq_true rfl) dX8_reads_482 rfl (fun H locs hq => ?_)
                  have hflt := fl_ne (k := 1) efault_111 u0 u1 (by decide) (by decide)
                  refine lv_goto (tgt := 26) hx hb dX8_reads_485 (by decide) ?_
                  have hst_112 : lpX8_reads_26 fNw (N26 + 1) op wa go at_ fl vn sm vf sf = lpX8_reads_26 fNw N26 op wa go u_17 fault_111 vn sm vf sf := by
                    subst efault_111 er_107 eu_17 er_18
                    exact (if_neg c_1).trans ((if_pos c_9).trans ((if_pos c_20).trans ((if_pos c_21).trans ((if_pos c_105).trans ((if_pos c_109).trans ((if_neg c_110).trans (rfl)))))))
                  exact ih26 op wa go u_17 fault_111 vn sm vf sf _ _ _ ⟨(hrel26.trans (hst_112)), (by assumption), (by omega), (by first | assumption | exact ⟨by omega, Or.inr (Or.inr (by omega))⟩ | exact ⟨by omega, Or.inr (Or.inl (by assumption))⟩ | exact ⟨by omega, Or.inl rfl⟩), lv_sub hl [1, 2, 3, 4] rfl, (kk_sub hq [2, 3, 0, 1] rfl (by decide))⟩
                · skip
                  refine lv_iload_n hx hb dX8_reads_458 rfl (lv_at hl 3 rfl) ?_
                  refine lv_if_ne (tgt := 472) hx hb dX8_reads_459 (by decide) (fun c_113 => ?_) (fun c_113 => ?_)
                  · skip
                    refine lv_aload_n hx hb dX8_reads_472 rfl (lv_at hl 4 rfl) ?_
                    refine lv_bipush (v := 10) hx hb dX8_reads_473 (by decide) ?_
                    refine lv_aload_n hx hb dX8_reads_475 rfl (lv_at hl 4 rfl) ?_
                    refine kk_get (ci := 8) (v := .int u_17) (C := RX8) (T := TX8) (N := 22) hx hb hts iX8 hown hK hq 2 rfl rfl 4 (by decide) lk0_ rfl dX8_reads_476 ?_
                    refine lv_imul hx hb dX8_reads_479 ?_
                    refine lv_iconst (v := 1) hx hb dX8_reads_480 (by decide) ?_
                    refine lv_iadd hx hb dX8_reads_481 ?_
                    refine lv_topi (fun fault_114 efault_114 => ?_)
                    refine kk_put (ws' := [(aVs, .inl (cVs, 64, .inr (.inl vf))), (aSg, .inl (cSg, 128, .inl sf)), (aM, .inr (8, [.ref aNw, .ref rM_kept, .ref rM_isKept, .ref rM_refused, .int u_17, .int fault_114, .ref aVs, .int vn, .ref aSg, .int sm, .long M_tells, .int M_way, .int M_wish, .long M_moreTick, .long M_moreForce, .int M_runTurns, .long M_runFirst, .long M_runLast, .ref rM_was, .long M_peak, .long M_beside, .int M_besideAt])), (aNw, .inl (cNw, 139, .inr (.inl fNw)))]) (ci := 8) (v := .int fault_114) (C := RX8) (T := TX8) (N := 22) hx hb hts iX8 tyX8_ok nmX8 hown hK hq 2 rfl rfl 5 (by decide) lk1_ rfl rfl rfl (Nat.le_of_ble_eq_true rfl) dX8_reads_482 rfl (fun H locs hq => ?_)
                    have hflt := fl_ne (k := 1) efault_114 u0 u1 (by decide) (by decide)
                    refine lv_goto (tgt := 26) hx hb dX8_reads_485 (by decide) ?_
                    have hst_115 : lpX8_reads_26 fNw (N26 + 1) op wa go at_ fl vn sm vf sf = lpX8_reads_26 fNw N26 op wa go u_17 fault_114 vn sm vf sf := by
                      subst efault_114 er_107 eu_17 er_18
                      exact (if_neg c_1).trans ((if_pos c_9).trans ((if_pos c_20).trans ((if_pos c_21).trans ((if_pos c_105).trans ((if_pos c_109).trans ((if_pos c_110).trans ((if_neg c_113).trans (rfl))))))))
                    exact ih26 op wa go u_17 fault_114 vn sm vf sf _ _ _ ⟨(hrel26.trans (hst_115)), (by assumption), (by omega), (by first | assumption | exact ⟨by omega, Or.inr (Or.inr (by omega))⟩ | exact ⟨by omega, Or.inr (Or.inl (by assumption))⟩ | exact ⟨by omega, Or.inl rfl⟩), lv_sub hl [1, 2, 3, 4] rfl, (kk_sub hq [2, 3, 0, 1] rfl (by decide))⟩
                  · skip
                    refine lv_aload_n hx hb dX8_reads_462 rfl (lv_at hl 4 rfl) ?_
                    refine lv_iconst (v := 1) hx hb dX8_reads_463 (by decide) ?_
                    refine kk_Vv (As := [.int 1]) (rest := []) (wr := [(aNw, .inl (cNw, 139, .inr (.inl fNw)))]) ⟨hx, hb, hml, hown, hts⟩ (c_X8_workDown l G aM aVs aSg aNw rM_kept rM_isKept rM_refused rM_was cVs cSg 1 u_17 fl vn sm M_tells M_way M_wish M_moreTick M_moreForce M_runTurns M_runFirst M_runLast M_peak M_beside M_besideAt vf sf s0 s1 hvb v2) (kk_cwV 1 hts hsb wd_317 wd_318 wd_319 wd_5 wd_320 rfl rfl hd_X8_workDown ⟨Nat.le_of_ble_eq_true rfl, Nat.le_of_ble_eq_true rfl⟩) hA hK hq [2, 0, 1] [3] [1, 2] rfl rfl rfl (by decide) (by decide) (by decide) 0 8 rfl rfl rfl rfl hl.1 rfl (Nat.le_of_ble_eq_true rfl) dX8_reads_464 ⟨Nat.zero_le _, Nat.zero_le _⟩ (fun u_116 H locs h_118 hq => ?_)
                    obtain ⟨eu_116, d0_u_116, d1_u_116, d2_u_116, d4_u_116, d5_u_116, d3_u_116⟩ := h_118
                    have hq : kAt G A s [(aNw, .inl (cNw, 139, .inr (.inl fNw))), (aM, .inr (8, [.ref aNw, .ref rM_kept, .ref rM_isKept, .ref rM_refused, .int u_17, .int fl, .ref aVs, .int u_116.1, .ref aSg, .int u_116.2.1, .long M_tells, .int M_way, .int M_wish, .long M_moreTick, .long M_moreForce, .int M_runTurns, .long M_runFirst, .long M_runLast, .ref rM_was, .long M_peak, .long M_beside, .int M_besideAt])), (aVs, .inl (cVs, 64, .inr (.inl u_116.2.2))), (aSg, .inl (cSg, 128, .inl sf))] H locs := hq
                    have riw := RI_wd ri0 d0_u_116 d1_u_116 d2_u_116 d4_u_116 d5_u_116
                    have riwa := RI_wa riw hwa0
                    refine lv_iconst (v := 0) hx hb dX8_reads_467 (by decide) ?_
                    refine lv_istore_n (lv' := [(3, .int 0), (4, .int r_18), (2, .int wa), (1, .int op), (0, .ref aM)]) hx hb dX8_reads_468 rfl hl (by decide) rfl (fun ls hl => ?_)
                    refine lv_goto (tgt := 485) hx hb dX8_reads_469 (by decide) ?_
                    refine lv_goto (tgt := 26) hx hb dX8_reads_485 (by decide) ?_
                    have hst_119 : lpX8_reads_26 fNw (N26 + 1) op wa go at_ fl vn sm vf sf = lpX8_reads_26 fNw N26 op wa 0 u_17 fl u_116.1 u_116.2.1 u_116.2.2 sf := by
                      subst eu_116 er_107 eu_17 er_18
                      exact (if_neg c_1).trans ((if_pos c_9).trans ((if_pos c_20).trans ((if_pos c_21).trans ((if_pos c_105).trans ((if_pos c_109).trans ((if_pos c_110).trans ((if_pos c_113).trans (rfl))))))))
                    exact ih26 op wa 0 u_17 fl u_116.1 u_116.2.1 u_116.2.2 sf _ _ _ ⟨(hrel26.trans (hst_119)), (by assumption), (by omega), (by first | assumption | exact ⟨by omega, Or.inr (Or.inr (by omega))⟩ | exact ⟨by omega, Or.inr (Or.inl (by assumption))⟩ | exact ⟨by omega, Or.inl rfl⟩), lv_sub hl [0, 2, 3, 4] rfl, (kk_sub hq [1, 0, 2, 3] rfl (by decide))⟩
              · skip
                have hrk := c_109
                rw [hr1] at hrk
                have rk := rank_k hrk
                have h60 := nx_lt nx rk.2.2 l1
                refine lv_aload_n hx hb dX8_reads_327 rfl (lv_at hl 4 rfl) ?_
                refine lv_iload hx hb dX8_reads_328 (lv_at hl 0 rfl) ?_
                refine kk_Si (As := [.int r_18]) (rest := [.ref aM]) (wr := [(aVs, .inl (cVs, 64, .inr (.inl vf))), (aSg, .inl (cSg, 128, .inl sf)), (aM, .inr (8, [.ref aNw, .ref rM_kept, .ref rM_isKept, .ref rM_refused, .int u_17, .int fl, .ref aVs, .int vn, .ref aSg, .int sm, .long M_tells, .int M_way, .int M_wish, .long M_moreTick, .long M_moreForce, .int M_runTurns, .long M_runFirst, .long M_runLast, .ref rM_was, .long M_peak, .long M_beside, .int M_besideAt])), (aNw, .inl (cNw, 139, .inr (.inl fNw)))]) ⟨hx, hb, hml, hown, hts⟩ (c_X8_rank l G r_18) (kk_cwS 1 hts hsb wd_321 wd_322 wd_5 wd_323 rfl rfl hd_X8_rank ⟨Nat.le_of_ble_eq_true rfl, Nat.le_of_ble_eq_true rfl⟩) hA hK hq [] [0, 1, 2, 3] [] rfl rfl rfl (by decide) (by decide) (by decide) rfl hl.1 rfl (Nat.le_of_ble_eq_true rfl) dX8_reads_330 ⟨Nat.zero_le _, Nat.zero_le _⟩ (fun r_121 u_120 H locs h_122 hq => ?_)
                have er_121 := h_122
                have hq : kAt G A s [(aVs, .inl (cVs, 64, .inr (.inl vf))), (aSg, .inl (cSg, 128, .inl sf)), (aM, .inr (8, [.ref aNw, .ref rM_kept, .ref rM_isKept, .ref rM_refused, .int u_17, .int fl, .ref aVs, .int vn, .ref aSg, .int sm, .long M_tells, .int M_way, .int M_wish, .long M_moreTick, .long M_moreForce, .int M_runTurns, .long M_runFirst, .long M_runLast, .ref rM_was, .long M_peak, .long M_beside, .int M_besideAt])), (aNw, .inl (cNw, 139, .inr (.inl fNw)))] H locs := hq
                refine lv_iconst (v := 3) hx hb dX8_reads_333 (by decide) ?_
                refine lv_icmp_ne (tgt := 341) hx hb dX8_reads_334 (by decide) (fun c_123 => ?_) (fun c_123 => ?_)
                · skip
                  refine lv_iload hx hb dX8_reads_341 (lv_at hl 0 rfl) ?_
                  refine kk_Si (As := [.int r_18]) (rest := [.ref aM]) (wr := [(aVs, .inl (cVs, 64, .inr (.inl vf))), (aSg, .inl (cSg, 128, .inl sf)), (aM, .inr (8, [.ref aNw, .ref rM_kept, .ref rM_isKept, .ref rM_refused, .int u_17, .int fl, .ref aVs, .int vn, .ref aSg, .int sm, .long M_tells, .int M_way, .int M_wish, .long M_moreTick, .long M_moreForce, .int M_runTurns, .long M_runFirst, .long M_runLast, .ref rM_was, .long M_peak, .long M_beside, .int M_besideAt])), (aNw, .inl (cNw, 139, .inr (.inl fNw)))]) ⟨hx, hb, hml, hown, hts⟩ (c_X8_rank l G r_18) (kk_cwS 1 hts hsb wd_321 wd_322 wd_5 wd_323 rfl rfl hd_X8_rank ⟨Nat.le_of_ble_eq_true rfl, Nat.le_of_ble_eq_true rfl⟩) hA hK hq [] [0, 1, 2, 3] [] rfl rfl rfl (by decide) (by decide) (by decide) rfl hl.1 rfl (Nat.le_of_ble_eq_true rfl) dX8_reads_343 ⟨Nat.zero_le _, Nat.zero_le _⟩ (fun r_125 u_124 H locs h_126 hq => ?_)
                  have er_125 := h_126
                  have hq : kAt G A s [(aVs, .inl (cVs, 64, .inr (.inl vf))), (aSg, .inl (cSg, 128, .inl sf)), (aM, .inr (8, [.ref aNw, .ref rM_kept, .ref rM_isKept, .ref rM_refused, .int u_17, .int fl, .ref aVs, .int vn, .ref aSg, .int sm, .long M_tells, .int M_way, .int M_wish, .long M_moreTick, .long M_moreForce, .int M_runTurns, .long M_runFirst, .long M_runLast, .ref rM_was, .long M_peak, .long M_beside, .int M_besideAt])), (aNw, .inl (cNw, 139, .inr (.inl fNw)))] H locs := hq
                  refine kk_Vv (As := [.int r_125]) (rest := []) (wr := [(aNw, .inl (cNw, 139, .inr (.inl fNw)))]) ⟨hx, hb, hml, hown, hts⟩ (c_X8_workDown l G aM aVs aSg aNw rM_kept rM_isKept rM_refused rM_was cVs cSg r_125 u_17 fl vn sm M_tells M_way M_wish M_moreTick M_moreForce M_runTurns M_runFirst M_runLast M_peak M_beside M_besideAt vf sf s0 s1 hvb v2) (kk_cwV 1 hts hsb wd_317 wd_318 wd_319 wd_5 wd_320 rfl rfl hd_X8_workDown ⟨Nat.le_of_ble_eq_true rfl, Nat.le_of_ble_eq_true rfl⟩) hA hK hq [2, 0, 1] [3] [1, 2] rfl rfl rfl (by decide) (by decide) (by decide) 0 8 rfl rfl rfl rfl hl.1 rfl (Nat.le_of_ble_eq_true rfl) dX8_reads_346 ⟨Nat.zero_le _, Nat.zero_le _⟩ (fun u_127 H locs h_129 hq => ?_)
                  obtain ⟨eu_127, d0_u_127, d1_u_127, d2_u_127, d4_u_127, d5_u_127, d3_u_127⟩ := h_129
                  have hq : kAt G A s [(aNw, .inl (cNw, 139, .inr (.inl fNw))), (aM, .inr (8, [.ref aNw, .ref rM_kept, .ref rM_isKept, .ref rM_refused, .int u_17, .int fl, .ref aVs, .int u_127.1, .ref aSg, .int u_127.2.1, .long M_tells, .int M_way, .int M_wish, .long M_moreTick, .long M_moreForce, .int M_runTurns, .long M_runFirst, .long M_runLast, .ref rM_was, .long M_peak, .long M_beside, .int M_besideAt])), (aVs, .inl (cVs, 64, .inr (.inl u_127.2.2))), (aSg, .inl (cSg, 128, .inl sf))] H locs := hq
                  have riw := RI_wd ri0 d0_u_127 d1_u_127 d2_u_127 d4_u_127 d5_u_127
                  have riwa := RI_wa riw hwa0
                  have rvw := RI_v riw
                  have d0_ := d0_u_127
                  have sm9 : u_127.2.1.toInt < (128 : Nat) := by omega
                  refine lv_iload hx hb dX8_reads_349 (lv_at hl 0 rfl) ?_
                  refine kk_Si (As := [.int r_18]) (rest := []) (wr := [(aNw, .inl (cNw, 139, .inr (.inl fNw))), (aM, .inr (8, [.ref aNw, .ref rM_kept, .ref rM_isKept, .ref rM_refused, .int u_17, .int fl, .ref aVs, .int u_127.1, .ref aSg, .int u_127.2.1, .long M_tells, .int M_way, .int M_wish, .long M_moreTick, .long M_moreForce, .int M_runTurns, .long M_runFirst, .long M_runLast, .ref rM_was, .long M_peak, .long M_beside, .int M_besideAt])), (aVs, .inl (cVs, 64, .inr (.inl u_127.2.2))), (aSg, .inl (cSg, 128, .inl sf))]) ⟨hx, hb, hml, hown, hts⟩ (c_X8_rank l G r_18) (kk_cwS 1 hts hsb wd_321 wd_322 wd_5 wd_323 rfl rfl hd_X8_rank ⟨Nat.le_of_ble_eq_true rfl, Nat.le_of_ble_eq_true rfl⟩) hA hK hq [] [0, 1, 2, 3] [] rfl rfl rfl (by decide) (by decide) (by decide) rfl hl.1 rfl (Nat.le_of_ble_eq_true rfl) dX8_reads_351 ⟨Nat.zero_le _, Nat.zero_le _⟩ (fun r_131 u_130 H locs h_132 hq => ?_)
                  have er_131 := h_132
                  have hq : kAt G A s [(aNw, .inl (cNw, 139, .inr (.inl fNw))), (aM, .inr (8, [.ref aNw, .ref rM_kept, .ref rM_isKept, .ref rM_refused, .int u_17, .int fl, .ref aVs, .int u_127.1, .ref aSg, .int u_127.2.1, .long M_tells, .int M_way, .int M_wish, .long M_moreTick, .long M_moreForce, .int M_runTurns, .long M_runFirst, .long M_runLast, .ref rM_was, .long M_peak, .long M_beside, .int M_besideAt])), (aVs, .inl (cVs, 64, .inr (.inl u_127.2.2))), (aSg, .inl (cSg, 128, .inl sf))] H locs := hq
                  refine lv_iconst (v := 3) hx hb dX8_reads_354 (by decide) ?_
                  refine lv_icmp_ne (tgt := 416) hx hb dX8_reads_355 (by decide) (fun c_133 => ?_) (fun c_133 => ?_)
                  · skip
                    refine lv_aload_n hx hb dX8_reads_416 rfl (lv_at hl 4 rfl) ?_
                    refine lv_dup hx hb dX8_reads_417 rfl ?_
                    refine kk_get (ci := 8) (v := .int u_17) (C := RX8) (T := TX8) (N := 22) hx hb hts iX8 hown hK hq 1 rfl rfl 4 (by decide) lk0_ rfl dX8_reads_418 ?_
                    refine lv_iconst (v := 1) hx hb dX8_reads_421 (by decide) ?_
                    refine lv_iadd hx hb dX8_reads_422 ?_
                    refine lv_topi (fun at_134 eat_134 => ?_)
                    refine kk_put (ws' := [(aNw, .inl (cNw, 139, .inr (.inl fNw))), (aM, .inr (8, [.ref aNw, .ref rM_kept, .ref rM_isKept, .ref rM_refused, .int at_134, .int fl, .ref aVs, .int u_127.1, .ref aSg, .int u_127.2.1, .long M_tells, .int M_way, .int M_wish, .long M_moreTick, .long M_moreForce, .int M_runTurns, .long M_runFirst, .long M_runLast, .ref rM_was, .long M_peak, .long M_beside, .int M_besideAt])), (aVs, .inl (cVs, 64, .inr (.inl u_127.2.2))), (aSg, .inl (cSg, 128, .inl sf))]) (ci := 8) (v := .int at_134) (C := RX8) (T := TX8) (N := 22) hx hb hts iX8 tyX8_ok nmX8 hown hK hq 1 rfl rfl 4 (by decide) lk0_ rfl rfl rfl (Nat.le_of_ble_eq_true rfl) dX8_reads_423 rfl (fun H locs hq => ?_)
                    have eAt := eat_134
                    have iAt : at_134.toInt = _ := (congrArg Int32.toInt eat_134).trans (kk_inc (by omega))
                    have iA6 : at_134.toInt ≤ 60 := by omega
                    refine lv_aload_n hx hb dX8_reads_426 rfl (lv_at hl 4 rfl) ?_
                    refine kk_get (ci := 8) (v := .ref aSg) (C := RX8) (T := TX8) (N := 22) hx hb hts iX8 hown hK hq 1 rfl rfl 8 (by decide) lk4_ rfl dX8_reads_427 ?_
                    refine lv_aload_n hx hb dX8_reads_430 rfl (lv_at hl 4 rfl) ?_
                    refine kk_get (ci := 8) (v := .int u_127.2.1) (C := RX8) (T := TX8) (N := 22) hx hb hts iX8 hown hK hq 1 rfl rfl 9 (by decide) lk3_ rfl dX8_reads_431 ?_
                    refine lv_iload hx hb dX8_reads_434 (lv_at hl 0 rfl) ?_
                    refine kk_iast (ws' := [(aNw, .inl (cNw, 139, .inr (.inl fNw))), (aM, .inr (8, [.ref aNw, .ref rM_kept, .ref rM_isKept, .ref rM_refused, .int at_134, .int fl, .ref aVs, .int u_127.1, .ref aSg, .int u_127.2.1, .long M_tells, .int M_way, .int M_wish, .long M_moreTick, .long M_moreForce, .int M_runTurns, .long M_runFirst, .long M_runLast, .ref rM_was, .long M_peak, .long M_beside, .int M_besideAt])), (aVs, .inl (cVs, 64, .inr (.inl u_127.2.2))), (aSg, .inl (cSg, 128, .inl (upd sf u_127.2.1.toNatClampNeg r_18)))]) hx hb hK hq 3 2 rfl rfl u_127.2.1.toNatClampNeg (kk_cl d0_) (kk_clt d0_ sm9) (by decide) dX8_reads_436 rfl (fun H locs hq => ?_)
                    obtain ⟨fSg_135, efSg_135⟩ : ∃ z : Nat → Int32, z = upd sf u_127.2.1.toNatClampNeg r_18 := ⟨_, rfl⟩
                    rw [← efSg_135] at hq
                    have eSf := efSg_135
                    refine lv_aload_n hx hb dX8_reads_437 rfl (lv_at hl 4 rfl) ?_
                    refine lv_dup hx hb dX8_reads_438 rfl ?_
                    refine kk_get (ci := 8) (v := .int u_127.2.1) (C := RX8) (T := TX8) (N := 22) hx hb hts iX8 hown hK hq 1 rfl rfl 9 (by decide) lk3_ rfl dX8_reads_439 ?_
                    refine lv_iconst (v := 1) hx hb dX8_reads_442 (by decide) ?_
                    refine lv_iadd hx hb dX8_reads_443 ?_
                    refine lv_topi (fun signMany_136 esignMany_136 => ?_)
                    refine kk_put (ws' := [(aNw, .inl (cNw, 139, .inr (.inl fNw))), (aM, .inr (8, [.ref aNw, .ref rM_kept, .ref rM_isKept, .ref rM_refused, .int at_134, .int fl, .ref aVs, .int u_127.1, .ref aSg, .int signMany_136, .long M_tells, .int M_way, .int M_wish, .long M_moreTick, .long M_moreForce, .int M_runTurns, .long M_runFirst, .long M_runLast, .ref rM_was, .long M_peak, .long M_beside, .int M_besideAt])), (aVs, .inl (cVs, 64, .inr (.inl u_127.2.2))), (aSg, .inl (cSg, 128, .inl fSg_135))]) (ci := 8) (v := .int signMany_136) (C := RX8) (T := TX8) (N := 22) hx hb hts iX8 tyX8_ok nmX8 hown hK hq 1 rfl rfl 9 (by decide) lk3_ rfl rfl rfl (Nat.le_of_ble_eq_true rfl) dX8_reads_444 rfl (fun H locs hq => ?_)
                    have riN := RI_bin riw h60 eAt esignMany_136 rk.1 rk.2.1
                    rw [← eSf] at riN
                    refine lv_iconst (v := 1) hx hb dX8_reads_447 (by decide) ?_
                    refine lv_istore_n (lv' := [(2, .int 1), (4, .int r_18), (3, .int go), (1, .int op), (0, .ref aM)]) hx hb dX8_reads_448 rfl hl (by decide) rfl (fun ls hl => ?_)
                    refine lv_goto (tgt := 485) hx hb dX8_reads_449 (by decide) ?_
                    refine lv_goto (tgt := 26) hx hb dX8_reads_485 (by decide) ?_
                    have hst_137 : lpX8_reads_26 fNw (N26 + 1) op wa go at_ fl vn sm vf sf = lpX8_reads_26 fNw N26 op 1 go at_134 fl u_127.1 signMany_136 u_127.2.2 fSg_135 := by
                      subst esignMany_136 efSg_135 eat_134 er_131 eu_127 er_125 er_121 er_107 eu_17 er_18
                      exact (if_neg c_1).trans ((if_pos c_9).trans ((if_pos c_20).trans ((if_pos c_21).trans ((if_pos c_105).trans ((if_neg c_109).trans ((if_neg c_123).trans ((if_neg c_133).trans (rfl))))))))
                    exact ih26 op 1 go at_134 fl u_127.1 signMany_136 u_127.2.2 fSg_135 _ _ _ ⟨(hrel26.trans (hst_137)), (by assumption), (by omega), (by first | assumption | exact ⟨by omega, Or.inr (Or.inr (by omega))⟩ | exact ⟨by omega, Or.inr (Or.inl (by assumption))⟩ | exact ⟨by omega, Or.inl rfl⟩), lv_sub hl [2, 0, 3, 4] rfl, (kk_sub hq [1, 0, 2, 3] rfl (by decide))⟩
                  · skip
                    refine lv_aload_n hx hb dX8_reads_358 rfl (lv_at hl 4 rfl) ?_
                    refine kk_get (ci := 8) (v := .int u_127.2.1) (C := RX8) (T := TX8) (N := 22) hx hb hts iX8 hown hK hq 1 rfl rfl 9 (by decide) lk3_ rfl dX8_reads_359 ?_
                    refine lv_if_le (tgt := 416) hx hb dX8_reads_362 (by decide) (fun c_138 => ?_) (fun c_138 => ?_)
                    · skip
                      refine lv_aload_n hx hb dX8_reads_416 rfl (lv_at hl 4 rfl) ?_
                      refine lv_dup hx hb dX8_reads_417 rfl ?_
                      refine kk_get (ci := 8) (v := .int u_17) (C := RX8) (T := TX8) (N := 22) hx hb hts iX8 hown hK hq 1 rfl rfl 4 (by decide) lk0_ rfl dX8_reads_418 ?_
                      refine lv_iconst (v := 1) hx hb dX8_reads_421 (by decide) ?_
                      refine lv_iadd hx hb dX8_reads_422 ?_
                      refine lv_topi (fun at_139 eat_139 => ?_)
                      refine kk_put (ws' := [(aNw, .inl (cNw, 139, .inr (.inl fNw))), (aM, .inr (8, [.ref aNw, .ref rM_kept, .ref rM_isKept, .ref rM_refused, .int at_139, .int fl, .ref aVs, .int u_127.1, .ref aSg, .int u_127.2.1, .long M_tells, .int M_way, .int M_wish, .long M_moreTick, .long M_moreForce, .int M_runTurns, .long M_runFirst, .long M_runLast, .ref rM_was, .long M_peak, .long M_beside, .int M_besideAt])), (aVs, .inl (cVs, 64, .inr (.inl u_127.2.2))), (aSg, .inl (cSg, 128, .inl sf))]) (ci := 8) (v := .int at_139) (C := RX8) (T := TX8) (N := 22) hx hb hts iX8 tyX8_ok nmX8 hown hK hq 1 rfl rfl 4 (by decide) lk0_ rfl rfl rfl (Nat.le_of_ble_eq_true rfl) dX8_reads_423 rfl (fun H locs hq => ?_)
                      have eAt := eat_139
                      have iAt : at_139.toInt = _ := (congrArg Int32.toInt eat_139).trans (kk_inc (by omega))
                      have iA6 : at_139.toInt ≤ 60 := by omega
                      refine lv_aload_n hx hb dX8_reads_426 rfl (lv_at hl 4 rfl) ?_
                      refine kk_get (ci := 8) (v := .ref aSg) (C := RX8) (T := TX8) (N := 22) hx hb hts iX8 hown hK hq 1 rfl rfl 8 (by decide) lk4_ rfl dX8_reads_427 ?_
                      refine lv_aload_n hx hb dX8_reads_430 rfl (lv_at hl 4 rfl) ?_
                      refine kk_get (ci := 8) (v := .int u_127.2.1) (C := RX8) (T := TX8) (N := 22) hx hb hts iX8 hown hK hq 1 rfl rfl 9 (by decide) lk3_ rfl dX8_reads_431 ?_
                      refine lv_iload hx hb dX8_reads_434 (lv_at hl 0 rfl) ?_
                      refine kk_iast (ws' := [(aNw, .inl (cNw, 139, .inr (.inl fNw))), (aM, .inr (8, [.ref aNw, .ref rM_kept, .ref rM_isKept, .ref rM_refused, .int at_139, .int fl, .ref aVs, .int u_127.1, .ref aSg, .int u_127.2.1, .long M_tells, .int M_way, .int M_wish, .long M_moreTick, .long M_moreForce, .int M_runTurns, .long M_runFirst, .long M_runLast, .ref rM_was, .long M_peak, .long M_beside, .int M_besideAt])), (aVs, .inl (cVs, 64, .inr (.inl u_127.2.2))), (aSg, .inl (cSg, 128, .inl (upd sf u_127.2.1.toNatClampNeg r_18)))]) hx hb hK hq 3 2 rfl rfl u_127.2.1.toNatClampNeg (kk_cl d0_) (kk_clt d0_ sm9) (by decide) dX8_reads_436 rfl (fun H locs hq => ?_)
                      obtain ⟨fSg_140, efSg_140⟩ : ∃ z : Nat → Int32, z = upd sf u_127.2.1.toNatClampNeg r_18 := ⟨_, rfl⟩
                      rw [← efSg_140] at hq
                      have eSf := efSg_140
                      refine lv_aload_n hx hb dX8_reads_437 rfl (lv_at hl 4 rfl) ?_
                      refine lv_dup hx hb dX8_reads_438 rfl ?_
                      refine kk_get (ci := 8) (v := .int u_127.2.1) (C := RX8) (T := TX8) (N := 22) hx hb hts iX8 hown hK hq 1 rfl rfl 9 (by decide) lk3_ rfl dX8_reads_439 ?_
                      refine lv_iconst (v := 1) hx hb dX8_reads_442 (by decide) ?_
                      refine lv_iadd hx hb dX8_reads_443 ?_
                      refine lv_topi (fun signMany_141 esignMany_141 => ?_)
                      refine kk_put (ws' := [(aNw, .inl (cNw, 139, .inr (.inl fNw))), (aM, .inr (8, [.ref aNw, .ref rM_kept, .ref rM_isKept, .ref rM_refused, .int at_139, .int fl, .ref aVs, .int u_127.1, .ref aSg, .int signMany_141, .long M_tells, .int M_way, .int M_wish, .long M_moreTick, .long M_moreForce, .int M_runTurns, .long M_runFirst, .long M_runLast, .ref rM_was, .long M_peak, .long M_beside, .int M_besideAt])), (aVs, .inl (cVs, 64, .inr (.inl u_127.2.2))), (aSg, .inl (cSg, 128, .inl fSg_140))]) (ci := 8) (v := .int signMany_141) (C := RX8) (T := TX8) (N := 22) hx hb hts iX8 tyX8_ok nmX8 hown hK hq 1 rfl rfl 9 (by decide) lk3_ rfl rfl rfl (Nat.le_of_ble_eq_true rfl) dX8_reads_444 rfl (fun H locs hq => ?_)
                      have riN := RI_bin riw h60 eAt esignMany_141 rk.1 rk.2.1
                      rw [← eSf] at riN
                      refine lv_iconst (v := 1) hx hb dX8_reads_447 (by decide) ?_
                      refine lv_istore_n (lv' := [(2, .int 1), (4, .int r_18), (3, .int go), (1, .int op), (0, .ref aM)]) hx hb dX8_reads_448 rfl hl (by decide) rfl (fun ls hl => ?_)
                      refine lv_goto (tgt := 485) hx hb dX8_reads_449 (by decide) ?_
                      refine lv_goto (tgt := 26) hx hb dX8_reads_485 (by decide) ?_
                      have hst_142 : lpX8_reads_26 fNw (N26 + 1) op wa go at_ fl vn sm vf sf = lpX8_reads_26 fNw N26 op 1 go at_139 fl u_127.1 signMany_141 u_127.2.2 fSg_140 := by
                        subst esignMany_141 efSg_140 eat_139 er_131 eu_127 er_125 er_121 er_107 eu_17 er_18
                        exact (if_neg c_1).trans ((if_pos c_9).trans ((if_pos c_20).trans ((if_pos c_21).trans ((if_pos c_105).trans ((if_neg c_109).trans ((if_neg c_123).trans ((if_pos c_133).trans ((if_pos c_138).trans (rfl)))))))))
                      exact ih26 op 1 go at_139 fl u_127.1 signMany_141 u_127.2.2 fSg_140 _ _ _ ⟨(hrel26.trans (hst_142)), (by assumption), (by omega), (by first | assumption | exact ⟨by omega, Or.inr (Or.inr (by omega))⟩ | exact ⟨by omega, Or.inr (Or.inl (by assumption))⟩ | exact ⟨by omega, Or.inl rfl⟩), lv_sub hl [2, 0, 3, 4] rfl, (kk_sub hq [1, 0, 2, 3] rfl (by decide))⟩
                    · skip
                      have hpp := kk_nle2 (k := 0) rfl c_138
                      have hp := dec_b (n := (128 : Nat)) rfl hpp (by omega)
                      refine lv_aload_n hx hb dX8_reads_365 rfl (lv_at hl 4 rfl) ?_
                      refine kk_get (ci := 8) (v := .ref aSg) (C := RX8) (T := TX8) (N := 22) hx hb hts iX8 hown hK hq 1 rfl rfl 8 (by decide) lk4_ rfl dX8_reads_366 ?_
                      refine lv_aload_n hx hb dX8_reads_369 rfl (lv_at hl 4 rfl) ?_
                      refine kk_get (ci := 8) (v := .int u_127.2.1) (C := RX8) (T := TX8) (N := 22) hx hb hts iX8 hown hK hq 1 rfl rfl 9 (by decide) lk3_ rfl dX8_reads_370 ?_
                      refine lv_iconst (v := 1) hx hb dX8_reads_373 (by decide) ?_
                      refine lv_isub hx hb dX8_reads_374 ?_
                      refine kk_iald hx hb hK hq 3 2 rfl rfl ((u_127.2.1 - 1).toNatClampNeg) (kk_cl hp.1) (kk_clt hp.1 hp.2.1) (by decide) dX8_reads_375 ?_
                      refine lv_sipush (v := 1000) hx hb dX8_reads_376 (by decide) ?_
                      refine lv_icmp_ge (tgt := 416) hx hb dX8_reads_379 (by decide) (fun c_143 => ?_) (fun c_143 => ?_)
                      · skip
                        refine lv_aload_n hx hb dX8_reads_416 rfl (lv_at hl 4 rfl) ?_
                        refine lv_dup hx hb dX8_reads_417 rfl ?_
                        refine kk_get (ci := 8) (v := .int u_17) (C := RX8) (T := TX8) (N := 22) hx hb hts iX8 hown hK hq 1 rfl rfl 4 (by decide) lk0_ rfl dX8_reads_418 ?_
                        refine lv_iconst (v := 1) hx hb dX8_reads_421 (by decide) ?_
                        refine lv_iadd hx hb dX8_reads_422 ?_
                        refine lv_topi (fun at_144 eat_144 => ?_)
                        refine kk_put (ws' := [(aNw, .inl (cNw, 139, .inr (.inl fNw))), (aM, .inr (8, [.ref aNw, .ref rM_kept, .ref rM_isKept, .ref rM_refused, .int at_144, .int fl, .ref aVs, .int u_127.1, .ref aSg, .int u_127.2.1, .long M_tells, .int M_way, .int M_wish, .long M_moreTick, .long M_moreForce, .int M_runTurns, .long M_runFirst, .long M_runLast, .ref rM_was, .long M_peak, .long M_beside, .int M_besideAt])), (aVs, .inl (cVs, 64, .inr (.inl u_127.2.2))), (aSg, .inl (cSg, 128, .inl sf))]) (ci := 8) (v := .int at_144) (C := RX8) (T := TX8) (N := 22) hx hb hts iX8 tyX8_ok nmX8 hown hK hq 1 rfl rfl 4 (by decide) lk0_ rfl rfl rfl (Nat.le_of_ble_eq_true rfl) dX8_reads_423 rfl (fun H locs hq => ?_)
                        have eAt := eat_144
                        have iAt : at_144.toInt = _ := (congrArg Int32.toInt eat_144).trans (kk_inc (by omega))
                        have iA6 : at_144.toInt ≤ 60 := by omega
                        refine lv_aload_n hx hb dX8_reads_426 rfl (lv_at hl 4 rfl) ?_
                        refine kk_get (ci := 8) (v := .ref aSg) (C := RX8) (T := TX8) (N := 22) hx hb hts iX8 hown hK hq 1 rfl rfl 8 (by decide) lk4_ rfl dX8_reads_427 ?_
                        refine lv_aload_n hx hb dX8_reads_430 rfl (lv_at hl 4 rfl) ?_
                        refine kk_get (ci := 8) (v := .int u_127.2.1) (C := RX8) (T := TX8) (N := 22) hx hb hts iX8 hown hK hq 1 rfl rfl 9 (by decide) lk3_ rfl dX8_reads_431 ?_
                        refine lv_iload hx hb dX8_reads_434 (lv_at hl 0 rfl) ?_
                        refine kk_iast (ws' := [(aNw, .inl (cNw, 139, .inr (.inl fNw))), (aM, .inr (8, [.ref aNw, .ref rM_kept, .ref rM_isKept, .ref rM_refused, .int at_144, .int fl, .ref aVs, .int u_127.1, .ref aSg, .int u_127.2.1, .long M_tells, .int M_way, .int M_wish, .long M_moreTick, .long M_moreForce, .int M_runTurns, .long M_runFirst, .long M_runLast, .ref rM_was, .long M_peak, .long M_beside, .int M_besideAt])), (aVs, .inl (cVs, 64, .inr (.inl u_127.2.2))), (aSg, .inl (cSg, 128, .inl (upd sf u_127.2.1.toNatClampNeg r_18)))]) hx hb hK hq 3 2 rfl rfl u_127.2.1.toNatClampNeg (kk_cl d0_) (kk_clt d0_ sm9) (by decide) dX8_reads_436 rfl (fun H locs hq => ?_)
                        obtain ⟨fSg_145, efSg_145⟩ : ∃ z : Nat → Int32, z = upd sf u_127.2.1.toNatClampNeg r_18 := ⟨_, rfl⟩
                        rw [← efSg_145] at hq
                        have eSf := efSg_145
                        refine lv_aload_n hx hb dX8_reads_437 rfl (lv_at hl 4 rfl) ?_
                        refine lv_dup hx hb dX8_reads_438 rfl ?_
                        refine kk_get (ci := 8) (v := .int u_127.2.1) (C := RX8) (T := TX8) (N := 22) hx hb hts iX8 hown hK hq 1 rfl rfl 9 (by decide) lk3_ rfl dX8_reads_439 ?_
                        refine lv_iconst (v := 1) hx hb dX8_reads_442 (by decide) ?_
                        refine lv_iadd hx hb dX8_reads_443 ?_
                        refine lv_topi (fun signMany_146 esignMany_146 => ?_)
                        refine kk_put (ws' := [(aNw, .inl (cNw, 139, .inr (.inl fNw))), (aM, .inr (8, [.ref aNw, .ref rM_kept, .ref rM_isKept, .ref rM_refused, .int at_144, .int fl, .ref aVs, .int u_127.1, .ref aSg, .int signMany_146, .long M_tells, .int M_way, .int M_wish, .long M_moreTick, .long M_moreForce, .int M_runTurns, .long M_runFirst, .long M_runLast, .ref rM_was, .long M_peak, .long M_beside, .int M_besideAt])), (aVs, .inl (cVs, 64, .inr (.inl u_127.2.2))), (aSg, .inl (cSg, 128, .inl fSg_145))]) (ci := 8) (v := .int signMany_146) (C := RX8) (T := TX8) (N := 22) hx hb hts iX8 tyX8_ok nmX8 hown hK hq 1 rfl rfl 9 (by decide) lk3_ rfl rfl rfl (Nat.le_of_ble_eq_true rfl) dX8_reads_444 rfl (fun H locs hq => ?_)
                        have riN := RI_bin riw h60 eAt esignMany_146 rk.1 rk.2.1
                        rw [← eSf] at riN
                        refine lv_iconst (v := 1) hx hb dX8_reads_447 (by decide) ?_
                        refine lv_istore_n (lv' := [(2, .int 1), (4, .int r_18), (3, .int go), (1, .int op), (0, .ref aM)]) hx hb dX8_reads_448 rfl hl (by decide) rfl (fun ls hl => ?_)
                        refine lv_goto (tgt := 485) hx hb dX8_reads_449 (by decide) ?_
                        refine lv_goto (tgt := 26) hx hb dX8_reads_485 (by decide) ?_
                        have hst_147 : lpX8_reads_26 fNw (N26 + 1) op wa go at_ fl vn sm vf sf = lpX8_reads_26 fNw N26 op 1 go at_144 fl u_127.1 signMany_146 u_127.2.2 fSg_145 := by
                          subst esignMany_146 efSg_145 eat_144 er_131 eu_127 er_125 er_121 er_107 eu_17 er_18
                          exact (if_neg c_1).trans ((if_pos c_9).trans ((if_pos c_20).trans ((if_pos c_21).trans ((if_pos c_105).trans ((if_neg c_109).trans ((if_neg c_123).trans ((if_pos c_133).trans ((if_neg c_138).trans ((if_pos c_143).trans (rfl))))))))))
                        exact ih26 op 1 go at_144 fl u_127.1 signMany_146 u_127.2.2 fSg_145 _ _ _ ⟨(hrel26.trans (hst_147)), (by assumption), (by omega), (by first | assumption | exact ⟨by omega, Or.inr (Or.inr (by omega))⟩ | exact ⟨by omega, Or.inr (Or.inl (by assumption))⟩ | exact ⟨by omega, Or.inl rfl⟩), lv_sub hl [2, 0, 3, 4] rfl, (kk_sub hq [1, 0, 2, 3] rfl (by decide))⟩
                      · skip
                        refine lv_aload_n hx hb dX8_reads_382 rfl (lv_at hl 4 rfl) ?_
                        refine kk_get (ci := 8) (v := .ref aSg) (C := RX8) (T := TX8) (N := 22) hx hb hts iX8 hown hK hq 1 rfl rfl 8 (by decide) lk4_ rfl dX8_reads_383 ?_
                        refine lv_aload_n hx hb dX8_reads_386 rfl (lv_at hl 4 rfl) ?_
                        refine kk_get (ci := 8) (v := .int u_127.2.1) (C := RX8) (T := TX8) (N := 22) hx hb hts iX8 hown hK hq 1 rfl rfl 9 (by decide) lk3_ rfl dX8_reads_387 ?_
                        refine lv_iconst (v := 1) hx hb dX8_reads_390 (by decide) ?_
                        refine lv_isub hx hb dX8_reads_391 ?_
                        refine kk_iald hx hb hK hq 3 2 rfl rfl ((u_127.2.1 - 1).toNatClampNeg) (kk_cl hp.1) (kk_clt hp.1 hp.2.1) (by decide) dX8_reads_392 ?_
                        refine kk_Si (As := [.int (sf ((u_127.2.1 - 1).toNatClampNeg))]) (rest := []) (wr := [(aNw, .inl (cNw, 139, .inr (.inl fNw))), (aM, .inr (8, [.ref aNw, .ref rM_kept, .ref rM_isKept, .ref rM_refused, .int u_17, .int fl, .ref aVs, .int u_127.1, .ref aSg, .int u_127.2.1, .long M_tells, .int M_way, .int M_wish, .long M_moreTick, .long M_moreForce, .int M_runTurns, .long M_runFirst, .long M_runLast, .ref rM_was, .long M_peak, .long M_beside, .int M_besideAt])), (aVs, .inl (cVs, 64, .inr (.inl u_127.2.2))), (aSg, .inl (cSg, 128, .inl sf))]) ⟨hx, hb, hml, hown, hts⟩ (c_X8_rank l G (sf ((u_127.2.1 - 1).toNatClampNeg))) (kk_cwS 1 hts hsb wd_321 wd_322 wd_5 wd_323 rfl rfl hd_X8_rank ⟨Nat.le_of_ble_eq_true rfl, Nat.le_of_ble_eq_true rfl⟩) hA hK hq [] [0, 1, 2, 3] [] rfl rfl rfl (by decide) (by decide) (by decide) rfl hl.1 rfl (Nat.le_of_ble_eq_true rfl) dX8_reads_393 ⟨Nat.zero_le _, Nat.zero_le _⟩ (fun r_149 u_148 H locs h_150 hq => ?_)
                        have er_149 := h_150
                        have hq : kAt G A s [(aNw, .inl (cNw, 139, .inr (.inl fNw))), (aM, .inr (8, [.ref aNw, .ref rM_kept, .ref rM_isKept, .ref rM_refused, .int u_17, .int fl, .ref aVs, .int u_127.1, .ref aSg, .int u_127.2.1, .long M_tells, .int M_way, .int M_wish, .long M_moreTick, .long M_moreForce, .int M_runTurns, .long M_runFirst, .long M_runLast, .ref rM_was, .long M_peak, .long M_beside, .int M_besideAt])), (aVs, .inl (cVs, 64, .inr (.inl u_127.2.2))), (aSg, .inl (cSg, 128, .inl sf))] H locs := hq
                        refine lv_iconst (v := 3) hx hb dX8_reads_396 (by decide) ?_
                        refine lv_icmp_ne (tgt := 416) hx hb dX8_reads_397 (by decide) (fun c_151 => ?_) (fun c_151 => ?_)
                        · skip
                          refine lv_aload_n hx hb dX8_reads_416 rfl (lv_at hl 4 rfl) ?_
                          refine lv_dup hx hb dX8_reads_417 rfl ?_
                          refine kk_get (ci := 8) (v := .int u_17) (C := RX8) (T := TX8) (N := 22) hx hb hts iX8 hown hK hq 1 rfl rfl 4 (by decide) lk0_ rfl dX8_reads_418 ?_
                          refine lv_iconst (v := 1) hx hb dX8_reads_421 (by decide) ?_
                          refine lv_iadd hx hb dX8_reads_422 ?_
                          refine lv_topi (fun at_152 eat_152 => ?_)
                          refine kk_put (ws' := [(aNw, .inl (cNw, 139, .inr (.inl fNw))), (aM, .inr (8, [.ref aNw, .ref rM_kept, .ref rM_isKept, .ref rM_refused, .int at_152, .int fl, .ref aVs, .int u_127.1, .ref aSg, .int u_127.2.1, .long M_tells, .int M_way, .int M_wish, .long M_moreTick, .long M_moreForce, .int M_runTurns, .long M_runFirst, .long M_runLast, .ref rM_was, .long M_peak, .long M_beside, .int M_besideAt])), (aVs, .inl (cVs, 64, .inr (.inl u_127.2.2))), (aSg, .inl (cSg, 128, .inl sf))]) (ci := 8) (v := .int at_152) (C := RX8) (T := TX8) (N := 22) hx hb hts iX8 tyX8_ok nmX8 hown hK hq 1 rfl rfl 4 (by decide) lk0_ rfl rfl rfl (Nat.le_of_ble_eq_true rfl) dX8_reads_423 rfl (fun H locs hq => ?_)
                          have eAt := eat_152
                          have iAt : at_152.toInt = _ := (congrArg Int32.toInt eat_152).trans (kk_inc (by omega))
                          have iA6 : at_152.toInt ≤ 60 := by omega
                          refine lv_aload_n hx hb dX8_reads_426 rfl (lv_at hl 4 rfl) ?_
                          refine kk_get (ci := 8) (v := .ref aSg) (C := RX8) (T := TX8) (N := 22) hx hb hts iX8 hown hK hq 1 rfl rfl 8 (by decide) lk4_ rfl dX8_reads_427 ?_
                          refine lv_aload_n hx hb dX8_reads_430 rfl (lv_at hl 4 rfl) ?_
                          refine kk_get (ci := 8) (v := .int u_127.2.1) (C := RX8) (T := TX8) (N := 22) hx hb hts iX8 hown hK hq 1 rfl rfl 9 (by decide) lk3_ rfl dX8_reads_431 ?_
                          refine lv_iload hx hb dX8_reads_434 (lv_at hl 0 rfl) ?_
                          refine kk_iast (ws' := [(aNw, .inl (cNw, 139, .inr (.inl fNw))), (aM, .inr (8, [.ref aNw, .ref rM_kept, .ref rM_isKept, .ref rM_refused, .int at_152, .int fl, .ref aVs, .int u_127.1, .ref aSg, .int u_127.2.1, .long M_tells, .int M_way, .int M_wish, .long M_moreTick, .long M_moreForce, .int M_runTurns, .long M_runFirst, .long M_runLast, .ref rM_was, .long M_peak, .long M_beside, .int M_besideAt])), (aVs, .inl (cVs, 64, .inr (.inl u_127.2.2))), (aSg, .inl (cSg, 128, .inl (upd sf u_127.2.1.toNatClampNeg r_18)))]) hx hb hK hq 3 2 rfl rfl u_127.2.1.toNatClampNeg (kk_cl d0_) (kk_clt d0_ sm9) (by decide) dX8_reads_436 rfl (fun H locs hq => ?_)
                          obtain ⟨fSg_153, efSg_153⟩ : ∃ z : Nat → Int32, z = upd sf u_127.2.1.toNatClampNeg r_18 := ⟨_, rfl⟩
                          rw [← efSg_153] at hq
                          have eSf := efSg_153
                          refine lv_aload_n hx hb dX8_reads_437 rfl (lv_at hl 4 rfl) ?_
                          refine lv_dup hx hb dX8_reads_438 rfl ?_
                          refine kk_get (ci := 8) (v := .int u_127.2.1) (C := RX8) (T := TX8) (N := 22) hx hb hts iX8 hown hK hq 1 rfl rfl 9 (by decide) lk3_ rfl dX8_reads_439 ?_
                          refine lv_iconst (v := 1) hx hb dX8_reads_442 (by decide) ?_
                          refine lv_iadd hx hb dX8_reads_443 ?_
                          refine lv_topi (fun signMany_154 esignMany_154 => ?_)
                          refine kk_put (ws' := [(aNw, .inl (cNw, 139, .inr (.inl fNw))), (aM, .inr (8, [.ref aNw, .ref rM_kept, .ref rM_isKept, .ref rM_refused, .int at_152, .int fl, .ref aVs, .int u_127.1, .ref aSg, .int signMany_154, .long M_tells, .int M_way, .int M_wish, .long M_moreTick, .long M_moreForce, .int M_runTurns, .long M_runFirst, .long M_runLast, .ref rM_was, .long M_peak, .long M_beside, .int M_besideAt])), (aVs, .inl (cVs, 64, .inr (.inl u_127.2.2))), (aSg, .inl (cSg, 128, .inl fSg_153))]) (ci := 8) (v := .int signMany_154) (C := RX8) (T := TX8) (N := 22) hx hb hts iX8 tyX8_ok nmX8 hown hK hq 1 rfl rfl 9 (by decide) lk3_ rfl rfl rfl (Nat.le_of_ble_eq_true rfl) dX8_reads_444 rfl (fun H locs hq => ?_)
                          have riN := RI_bin riw h60 eAt esignMany_154 rk.1 rk.2.1
                          rw [← eSf] at riN
                          refine lv_iconst (v := 1) hx hb dX8_reads_447 (by decide) ?_
                          refine lv_istore_n (lv' := [(2, .int 1), (4, .int r_18), (3, .int go), (1, .int op), (0, .ref aM)]) hx hb dX8_reads_448 rfl hl (by decide) rfl (fun ls hl => ?_)
                          refine lv_goto (tgt := 485) hx hb dX8_reads_449 (by decide) ?_
                          refine lv_goto (tgt := 26) hx hb dX8_reads_485 (by decide) ?_
                          have hst_155 : lpX8_reads_26 fNw (N26 + 1) op wa go at_ fl vn sm vf sf = lpX8_reads_26 fNw N26 op 1 go at_152 fl u_127.1 signMany_154 u_127.2.2 fSg_153 := by
                            subst esignMany_154 efSg_153 eat_152 er_149 er_131 eu_127 er_125 er_121 er_107 eu_17 er_18
                            exact (if_neg c_1).trans ((if_pos c_9).trans ((if_pos c_20).trans ((if_pos c_21).trans ((if_pos c_105).trans ((if_neg c_109).trans ((if_neg c_123).trans ((if_pos c_133).trans ((if_neg c_138).trans ((if_neg c_143).trans ((if_neg c_151).trans (rfl)))))))))))
                          exact ih26 op 1 go at_152 fl u_127.1 signMany_154 u_127.2.2 fSg_153 _ _ _ ⟨(hrel26.trans (hst_155)), (by assumption), (by omega), (by first | assumption | exact ⟨by omega, Or.inr (Or.inr (by omega))⟩ | exact ⟨by omega, Or.inr (Or.inl (by assumption))⟩ | exact ⟨by omega, Or.inl rfl⟩), lv_sub hl [2, 0, 3, 4] rfl, (kk_sub hq [1, 0, 2, 3] rfl (by decide))⟩
                        · skip
                          refine lv_aload_n hx hb dX8_reads_400 rfl (lv_at hl 4 rfl) ?_
                          refine lv_bipush (v := 10) hx hb dX8_reads_401 (by decide) ?_
                          refine lv_aload_n hx hb dX8_reads_403 rfl (lv_at hl 4 rfl) ?_
                          refine kk_get (ci := 8) (v := .int u_17) (C := RX8) (T := TX8) (N := 22) hx hb hts iX8 hown hK hq 1 rfl rfl 4 (by decide) lk0_ rfl dX8_reads_404 ?_
                          refine lv_imul hx hb dX8_reads_407 ?_
                          refine lv_iconst (v := 1) hx hb dX8_reads_408 (by decide) ?_
                          refine lv_iadd hx hb dX8_reads_409 ?_
                          refine lv_topi (fun fault_156 efault_156 => ?_)
                          refine kk_put (ws' := [(aNw, .inl (cNw, 139, .inr (.inl fNw))), (aM, .inr (8, [.ref aNw, .ref rM_kept, .ref rM_isKept, .ref rM_refused, .int u_17, .int fault_156, .ref aVs, .int u_127.1, .ref aSg, .int u_127.2.1, .long M_tells, .int M_way, .int M_wish, .long M_moreTick, .long M_moreForce, .int M_runTurns, .long M_runFirst, .long M_runLast, .ref rM_was, .long M_peak, .long M_beside, .int M_besideAt])), (aVs, .inl (cVs, 64, .inr (.inl u_127.2.2))), (aSg, .inl (cSg, 128, .inl sf))]) (ci := 8) (v := .int fault_156) (C := RX8) (T := TX8) (N := 22) hx hb hts iX8 tyX8_ok nmX8 hown hK hq 1 rfl rfl 5 (by decide) lk1_ rfl rfl rfl (Nat.le_of_ble_eq_true rfl) dX8_reads_410 rfl (fun H locs hq => ?_)
                          have hflt := fl_ne (k := 1) efault_156 u0 u1 (by decide) (by decide)
                          refine lv_goto (tgt := 485) hx hb dX8_reads_413 (by decide) ?_
                          refine lv_goto (tgt := 26) hx hb dX8_reads_485 (by decide) ?_
                          have hst_157 : lpX8_reads_26 fNw (N26 + 1) op wa go at_ fl vn sm vf sf = lpX8_reads_26 fNw N26 op wa go u_17 fault_156 u_127.1 u_127.2.1 u_127.2.2 sf := by
                            subst efault_156 er_149 er_131 eu_127 er_125 er_121 er_107 eu_17 er_18
                            exact (if_neg c_1).trans ((if_pos c_9).trans ((if_pos c_20).trans ((if_pos c_21).trans ((if_pos c_105).trans ((if_neg c_109).trans ((if_neg c_123).trans ((if_pos c_133).trans ((if_neg c_138).trans ((if_neg c_143).trans ((if_pos c_151).trans (rfl)))))))))))
                          exact ih26 op wa go u_17 fault_156 u_127.1 u_127.2.1 u_127.2.2 sf _ _ _ ⟨(hrel26.trans (hst_157)), (by assumption), (by omega), (by first | assumption | exact ⟨by omega, Or.inr (Or.inr (by omega))⟩ | exact ⟨by omega, Or.inr (Or.inl (by assumption))⟩ | exact ⟨by omega, Or.inl rfl⟩), lv_sub hl [1, 2, 3, 4] rfl, (kk_sub hq [1, 0, 2, 3] rfl (by decide))⟩
                · skip
                  refine lv_iconst (v := 4) hx hb dX8_reads_337 (by decide) ?_
                  refine lv_goto (tgt := 346) hx hb dX8_reads_338 (by decide) ?_
                  refine kk_Vv (As := [.int 4]) (rest := []) (wr := [(aNw, .inl (cNw, 139, .inr (.inl fNw)))]) ⟨hx, hb, hml, hown, hts⟩ (c_X8_workDown l G aM aVs aSg aNw rM_kept rM_isKept rM_refused rM_was cVs cSg 4 u_17 fl vn sm M_tells M_way M_wish M_moreTick M_moreForce M_runTurns M_runFirst M_runLast M_peak M_beside M_besideAt vf sf s0 s1 hvb v2) (kk_cwV 1 hts hsb wd_317 wd_318 wd_319 wd_5 wd_320 rfl rfl hd_X8_workDown ⟨Nat.le_of_ble_eq_true rfl, Nat.le_of_ble_eq_true rfl⟩) hA hK hq [2, 0, 1] [3] [1, 2] rfl rfl rfl (by decide) (by decide) (by decide) 0 8 rfl rfl rfl rfl hl.1 rfl (Nat.le_of_ble_eq_true rfl) dX8_reads_346 ⟨Nat.zero_le _, Nat.zero_le _⟩ (fun u_158 H locs h_160 hq => ?_)
                  obtain ⟨eu_158, d0_u_158, d1_u_158, d2_u_158, d4_u_158, d5_u_158, d3_u_158⟩ := h_160
                  have hq : kAt G A s [(aNw, .inl (cNw, 139, .inr (.inl fNw))), (aM, .inr (8, [.ref aNw, .ref rM_kept, .ref rM_isKept, .ref rM_refused, .int u_17, .int fl, .ref aVs, .int u_158.1, .ref aSg, .int u_158.2.1, .long M_tells, .int M_way, .int M_wish, .long M_moreTick, .long M_moreForce, .int M_runTurns, .long M_runFirst, .long M_runLast, .ref rM_was, .long M_peak, .long M_beside, .int M_besideAt])), (aVs, .inl (cVs, 64, .inr (.inl u_158.2.2))), (aSg, .inl (cSg, 128, .inl sf))] H locs := hq
                  have riw := RI_wd ri0 d0_u_158 d1_u_158 d2_u_158 d4_u_158 d5_u_158
                  have riwa := RI_wa riw hwa0
                  have rvw := RI_v riw
                  have d0_ := d0_u_158
                  have sm9 : u_158.2.1.toInt < (128 : Nat) := by omega
                  refine lv_iload hx hb dX8_reads_349 (lv_at hl 0 rfl) ?_
                  refine kk_Si (As := [.int r_18]) (rest := []) (wr := [(aNw, .inl (cNw, 139, .inr (.inl fNw))), (aM, .inr (8, [.ref aNw, .ref rM_kept, .ref rM_isKept, .ref rM_refused, .int u_17, .int fl, .ref aVs, .int u_158.1, .ref aSg, .int u_158.2.1, .long M_tells, .int M_way, .int M_wish, .long M_moreTick, .long M_moreForce, .int M_runTurns, .long M_runFirst, .long M_runLast, .ref rM_was, .long M_peak, .long M_beside, .int M_besideAt])), (aVs, .inl (cVs, 64, .inr (.inl u_158.2.2))), (aSg, .inl (cSg, 128, .inl sf))]) ⟨hx, hb, hml, hown, hts⟩ (c_X8_rank l G r_18) (kk_cwS 1 hts hsb wd_321 wd_322 wd_5 wd_323 rfl rfl hd_X8_rank ⟨Nat.le_of_ble_eq_true rfl, Nat.le_of_ble_eq_true rfl⟩) hA hK hq [] [0, 1, 2, 3] [] rfl rfl rfl (by decide) (by decide) (by decide) rfl hl.1 rfl (Nat.le_of_ble_eq_true rfl) dX8_reads_351 ⟨Nat.zero_le _, Nat.zero_le _⟩ (fun r_162 u_161 H locs h_163 hq => ?_)
                  have er_162 := h_163
                  have hq : kAt G A s [(aNw, .inl (cNw, 139, .inr (.inl fNw))), (aM, .inr (8, [.ref aNw, .ref rM_kept, .ref rM_isKept, .ref rM_refused, .int u_17, .int fl, .ref aVs, .int u_158.1, .ref aSg, .int u_158.2.1, .long M_tells, .int M_way, .int M_wish, .long M_moreTick, .long M_moreForce, .int M_runTurns, .long M_runFirst, .long M_runLast, .ref rM_was, .long M_peak, .long M_beside, .int M_besideAt])), (aVs, .inl (cVs, 64, .inr (.inl u_158.2.2))), (aSg, .inl (cSg, 128, .inl sf))] H locs := hq
                  refine lv_iconst (v := 3) hx hb dX8_reads_354 (by decide) ?_
                  refine lv_icmp_ne (tgt := 416) hx hb dX8_reads_355 (by decide) (fun c_164 => ?_) (fun c_164 => ?_)
                  · skip
                    refine lv_aload_n hx hb dX8_reads_416 rfl (lv_at hl 4 rfl) ?_
                    refine lv_dup hx hb dX8_reads_417 rfl ?_
                    refine kk_get (ci := 8) (v := .int u_17) (C := RX8) (T := TX8) (N := 22) hx hb hts iX8 hown hK hq 1 rfl rfl 4 (by decide) lk0_ rfl dX8_reads_418 ?_
                    refine lv_iconst (v := 1) hx hb dX8_reads_421 (by decide) ?_
                    refine lv_iadd hx hb dX8_reads_422 ?_
                    refine lv_topi (fun at_165 eat_165 => ?_)
                    refine kk_put (ws' := [(aNw, .inl (cNw, 139, .inr (.inl fNw))), (aM, .inr (8, [.ref aNw, .ref rM_kept, .ref rM_isKept, .ref rM_refused, .int at_165, .int fl, .ref aVs, .int u_158.1, .ref aSg, .int u_158.2.1, .long M_tells, .int M_way, .int M_wish, .long M_moreTick, .long M_moreForce, .int M_runTurns, .long M_runFirst, .long M_runLast, .ref rM_was, .long M_peak, .long M_beside, .int M_besideAt])), (aVs, .inl (cVs, 64, .inr (.inl u_158.2.2))), (aSg, .inl (cSg, 128, .inl sf))]) (ci := 8) (v := .int at_165) (C := RX8) (T := TX8) (N := 22) hx hb hts iX8 tyX8_ok nmX8 hown hK hq 1 rfl rfl 4 (by decide) lk0_ rfl rfl rfl (Nat.le_of_ble_eq_true rfl) dX8_reads_423 rfl (fun H locs hq => ?_)
                    have eAt := eat_165
                    have iAt : at_165.toInt = _ := (congrArg Int32.toInt eat_165).trans (kk_inc (by omega))
                    have iA6 : at_165.toInt ≤ 60 := by omega
                    refine lv_aload_n hx hb dX8_reads_426 rfl (lv_at hl 4 rfl) ?_
                    refine kk_get (ci := 8) (v := .ref aSg) (C := RX8) (T := TX8) (N := 22) hx hb hts iX8 hown hK hq 1 rfl rfl 8 (by decide) lk4_ rfl dX8_reads_427 ?_
                    refine lv_aload_n hx hb dX8_reads_430 rfl (lv_at hl 4 rfl) ?_
                    refine kk_get (ci := 8) (v := .int u_158.2.1) (C := RX8) (T := TX8) (N := 22) hx hb hts iX8 hown hK hq 1 rfl rfl 9 (by decide) lk3_ rfl dX8_reads_431 ?_
                    refine lv_iload hx hb dX8_reads_434 (lv_at hl 0 rfl) ?_
                    refine kk_iast (ws' := [(aNw, .inl (cNw, 139, .inr (.inl fNw))), (aM, .inr (8, [.ref aNw, .ref rM_kept, .ref rM_isKept, .ref rM_refused, .int at_165, .int fl, .ref aVs, .int u_158.1, .ref aSg, .int u_158.2.1, .long M_tells, .int M_way, .int M_wish, .long M_moreTick, .long M_moreForce, .int M_runTurns, .long M_runFirst, .long M_runLast, .ref rM_was, .long M_peak, .long M_beside, .int M_besideAt])), (aVs, .inl (cVs, 64, .inr (.inl u_158.2.2))), (aSg, .inl (cSg, 128, .inl (upd sf u_158.2.1.toNatClampNeg r_18)))]) hx hb hK hq 3 2 rfl rfl u_158.2.1.toNatClampNeg (kk_cl d0_) (kk_clt d0_ sm9) (by decide) dX8_reads_436 rfl (fun H locs hq => ?_)
                    obtain ⟨fSg_166, efSg_166⟩ : ∃ z : Nat → Int32, z = upd sf u_158.2.1.toNatClampNeg r_18 := ⟨_, rfl⟩
                    rw [← efSg_166] at hq
                    have eSf := efSg_166
                    refine lv_aload_n hx hb dX8_reads_437 rfl (lv_at hl 4 rfl) ?_
                    refine lv_dup hx hb dX8_reads_438 rfl ?_
                    refine kk_get (ci := 8) (v := .int u_158.2.1) (C := RX8) (T := TX8) (N := 22) hx hb hts iX8 hown hK hq 1 rfl rfl 9 (by decide) lk3_ rfl dX8_reads_439 ?_
                    refine lv_iconst (v := 1) hx hb dX8_reads_442 (by decide) ?_
                    refine lv_iadd hx hb dX8_reads_443 ?_
                    refine lv_topi (fun signMany_167 esignMany_167 => ?_)
                    refine kk_put (ws' := [(aNw, .inl (cNw, 139, .inr (.inl fNw))), (aM, .inr (8, [.ref aNw, .ref rM_kept, .ref rM_isKept, .ref rM_refused, .int at_165, .int fl, .ref aVs, .int u_158.1, .ref aSg, .int signMany_167, .long M_tells, .int M_way, .int M_wish, .long M_moreTick, .long M_moreForce, .int M_runTurns, .long M_runFirst, .long M_runLast, .ref rM_was, .long M_peak, .long M_beside, .int M_besideAt])), (aVs, .inl (cVs, 64, .inr (.inl u_158.2.2))), (aSg, .inl (cSg, 128, .inl fSg_166))]) (ci := 8) (v := .int signMany_167) (C := RX8) (T := TX8) (N := 22) hx hb hts iX8 tyX8_ok nmX8 hown hK hq 1 rfl rfl 9 (by decide) lk3_ rfl rfl rfl (Nat.le_of_ble_eq_true rfl) dX8_reads_444 rfl (fun H locs hq => ?_)
                    have riN := RI_bin riw h60 eAt esignMany_167 rk.1 rk.2.1
                    rw [← eSf] at riN
                    refine lv_iconst (v := 1) hx hb dX8_reads_447 (by decide) ?_
                    refine lv_istore_n (lv' := [(2, .int 1), (4, .int r_18), (3, .int go), (1, .int op), (0, .ref aM)]) hx hb dX8_reads_448 rfl hl (by decide) rfl (fun ls hl => ?_)
                    refine lv_goto (tgt := 485) hx hb dX8_reads_449 (by decide) ?_
                    refine lv_goto (tgt := 26) hx hb dX8_reads_485 (by decide) ?_
                    have hst_168 : lpX8_reads_26 fNw (N26 + 1) op wa go at_ fl vn sm vf sf = lpX8_reads_26 fNw N26 op 1 go at_165 fl u_158.1 signMany_167 u_158.2.2 fSg_166 := by
                      subst esignMany_167 efSg_166 eat_165 er_162 eu_158 er_121 er_107 eu_17 er_18
                      exact (if_neg c_1).trans ((if_pos c_9).trans ((if_pos c_20).trans ((if_pos c_21).trans ((if_pos c_105).trans ((if_neg c_109).trans ((if_pos c_123).trans ((if_neg c_164).trans (rfl))))))))
                    exact ih26 op 1 go at_165 fl u_158.1 signMany_167 u_158.2.2 fSg_166 _ _ _ ⟨(hrel26.trans (hst_168)), (by assumption), (by omega), (by first | assumption | exact ⟨by omega, Or.inr (Or.inr (by omega))⟩ | exact ⟨by omega, Or.inr (Or.inl (by assumption))⟩ | exact ⟨by omega, Or.inl rfl⟩), lv_sub hl [2, 0, 3, 4] rfl, (kk_sub hq [1, 0, 2, 3] rfl (by decide))⟩
                  · skip
                    refine lv_aload_n hx hb dX8_reads_358 rfl (lv_at hl 4 rfl) ?_
                    refine kk_get (ci := 8) (v := .int u_158.2.1) (C := RX8) (T := TX8) (N := 22) hx hb hts iX8 hown hK hq 1 rfl rfl 9 (by decide) lk3_ rfl dX8_reads_359 ?_
                    refine lv_if_le (tgt := 416) hx hb dX8_reads_362 (by decide) (fun c_169 => ?_) (fun c_169 => ?_)
                    · skip
                      refine lv_aload_n hx hb dX8_reads_416 rfl (lv_at hl 4 rfl) ?_
                      refine lv_dup hx hb dX8_reads_417 rfl ?_
                      refine kk_get (ci := 8) (v := .int u_17) (C := RX8) (T := TX8) (N := 22) hx hb hts iX8 hown hK hq 1 rfl rfl 4 (by decide) lk0_ rfl dX8_reads_418 ?_
                      refine lv_iconst (v := 1) hx hb dX8_reads_421 (by decide) ?_
                      refine lv_iadd hx hb dX8_reads_422 ?_
                      refine lv_topi (fun at_170 eat_170 => ?_)
                      refine kk_put (ws' := [(aNw, .inl (cNw, 139, .inr (.inl fNw))), (aM, .inr (8, [.ref aNw, .ref rM_kept, .ref rM_isKept, .ref rM_refused, .int at_170, .int fl, .ref aVs, .int u_158.1, .ref aSg, .int u_158.2.1, .long M_tells, .int M_way, .int M_wish, .long M_moreTick, .long M_moreForce, .int M_runTurns, .long M_runFirst, .long M_runLast, .ref rM_was, .long M_peak, .long M_beside, .int M_besideAt])), (aVs, .inl (cVs, 64, .inr (.inl u_158.2.2))), (aSg, .inl (cSg, 128, .inl sf))]) (ci := 8) (v := .int at_170) (C := RX8) (T := TX8) (N := 22) hx hb hts iX8 tyX8_ok nmX8 hown hK hq 1 rfl rfl 4 (by decide) lk0_ rfl rfl rfl (Nat.le_of_ble_eq_true rfl) dX8_reads_423 rfl (fun H locs hq => ?_)
                      have eAt := eat_170
                      have iAt : at_170.toInt = _ := (congrArg Int32.toInt eat_170).trans (kk_inc (by omega))
                      have iA6 : at_170.toInt ≤ 60 := by omega
                      refine lv_aload_n hx hb dX8_reads_426 rfl (lv_at hl 4 rfl) ?_
                      refine kk_get (ci := 8) (v := .ref aSg) (C := RX8) (T := TX8) (N := 22) hx hb hts iX8 hown hK hq 1 rfl rfl 8 (by decide) lk4_ rfl dX8_reads_427 ?_
                      refine lv_aload_n hx hb dX8_reads_430 rfl (lv_at hl 4 rfl) ?_
                      refine kk_get (ci := 8) (v := .int u_158.2.1) (C := RX8) (T := TX8) (N := 22) hx hb hts iX8 hown hK hq 1 rfl rfl 9 (by decide) lk3_ rfl dX8_reads_431 ?_
                      refine lv_iload hx hb dX8_reads_434 (lv_at hl 0 rfl) ?_
                      refine kk_iast (ws' := [(aNw, .inl (cNw, 139, .inr (.inl fNw))), (aM, .inr (8, [.ref aNw, .ref rM_kept, .ref rM_isKept, .ref rM_refused, .int at_170, .int fl, .ref aVs, .int u_158.1, .ref aSg, .int u_158.2.1, .long M_tells, .int M_way, .int M_wish, .long M_moreTick, .long M_moreForce, .int M_runTurns, .long M_runFirst, .long M_runLast, .ref rM_was, .long M_peak, .long M_beside, .int M_besideAt])), (aVs, .inl (cVs, 64, .inr (.inl u_158.2.2))), (aSg, .inl (cSg, 128, .inl (upd sf u_158.2.1.toNatClampNeg r_18)))]) hx hb hK hq 3 2 rfl rfl u_158.2.1.toNatClampNeg (kk_cl d0_) (kk_clt d0_ sm9) (by decide) dX8_reads_436 rfl (fun H locs hq => ?_)
                      obtain ⟨fSg_171, efSg_171⟩ : ∃ z : Nat → Int32, z = upd sf u_158.2.1.toNatClampNeg r_18 := ⟨_, rfl⟩
                      rw [← efSg_171] at hq
                      have eSf := efSg_171
                      refine lv_aload_n hx hb dX8_reads_437 rfl (lv_at hl 4 rfl) ?_
                      refine lv_dup hx hb dX8_reads_438 rfl ?_
                      refine kk_get (ci := 8) (v := .int u_158.2.1) (C := RX8) (T := TX8) (N := 22) hx hb hts iX8 hown hK hq 1 rfl rfl 9 (by decide) lk3_ rfl dX8_reads_439 ?_
                      refine lv_iconst (v := 1) hx hb dX8_reads_442 (by decide) ?_
                      refine lv_iadd hx hb dX8_reads_443 ?_
                      refine lv_topi (fun signMany_172 esignMany_172 => ?_)
                      refine kk_put (ws' := [(aNw, .inl (cNw, 139, .inr (.inl fNw))), (aM, .inr (8, [.ref aNw, .ref rM_kept, .ref rM_isKept, .ref rM_refused, .int at_170, .int fl, .ref aVs, .int u_158.1, .ref aSg, .int signMany_172, .long M_tells, .int M_way, .int M_wish, .long M_moreTick, .long M_moreForce, .int M_runTurns, .long M_runFirst, .long M_runLast, .ref rM_was, .long M_peak, .long M_beside, .int M_besideAt])), (aVs, .inl (cVs, 64, .inr (.inl u_158.2.2))), (aSg, .inl (cSg, 128, .inl fSg_171))]) (ci := 8) (v := .int signMany_172) (C := RX8) (T := TX8) (N := 22) hx hb hts iX8 tyX8_ok nmX8 hown hK hq 1 rfl rfl 9 (by decide) lk3_ rfl rfl rfl (Nat.le_of_ble_eq_true rfl) dX8_reads_444 rfl (fun H locs hq => ?_)
                      have riN := RI_bin riw h60 eAt esignMany_172 rk.1 rk.2.1
                      rw [← eSf] at riN
                      refine lv_iconst (v := 1) hx hb dX8_reads_447 (by decide) ?_
                      refine lv_istore_n (lv' := [(2, .int 1), (4, .int r_18), (3, .int go), (1, .int op), (0, .ref aM)]) hx hb dX8_reads_448 rfl hl (by decide) rfl (fun ls hl => ?_)
                      refine lv_goto (tgt := 485) hx hb dX8_reads_449 (by decide) ?_
                      refine lv_goto (tgt := 26) hx hb dX8_reads_485 (by decide) ?_
                      have hst_173 : lpX8_reads_26 fNw (N26 + 1) op wa go at_ fl vn sm vf sf = lpX8_reads_26 fNw N26 op 1 go at_170 fl u_158.1 signMany_172 u_158.2.2 fSg_171 := by
                        subst esignMany_172 efSg_171 eat_170 er_162 eu_158 er_121 er_107 eu_17 er_18
                        exact (if_neg c_1).trans ((if_pos c_9).trans ((if_pos c_20).trans ((if_pos c_21).trans ((if_pos c_105).trans ((if_neg c_109).trans ((if_pos c_123).trans ((if_pos c_164).trans ((if_pos c_169).trans (rfl)))))))))
                      exact ih26 op 1 go at_170 fl u_158.1 signMany_172 u_158.2.2 fSg_171 _ _ _ ⟨(hrel26.trans (hst_173)), (by assumption), (by omega), (by first | assumption | exact ⟨by omega, Or.inr (Or.inr (by omega))⟩ | exact ⟨by omega, Or.inr (Or.inl (by assumption))⟩ | exact ⟨by omega, Or.inl rfl⟩), lv_sub hl [2, 0, 3, 4] rfl, (kk_sub hq [1, 0, 2, 3] rfl (by decide))⟩
                    · skip
                      have hpp := kk_nle2 (k := 0) rfl c_169
                      have hp := dec_b (n := (128 : Nat)) rfl hpp (by omega)
                      refine lv_aload_n hx hb dX8_reads_365 rfl (lv_at hl 4 rfl) ?_
                      refine kk_get (ci := 8) (v := .ref aSg) (C := RX8) (T := TX8) (N := 22) hx hb hts iX8 hown hK hq 1 rfl rfl 8 (by decide) lk4_ rfl dX8_reads_366 ?_
                      refine lv_aload_n hx hb dX8_reads_369 rfl (lv_at hl 4 rfl) ?_
                      refine kk_get (ci := 8) (v := .int u_158.2.1) (C := RX8) (T := TX8) (N := 22) hx hb hts iX8 hown hK hq 1 rfl rfl 9 (by decide) lk3_ rfl dX8_reads_370 ?_
                      refine lv_iconst (v := 1) hx hb dX8_reads_373 (by decide) ?_
                      refine lv_isub hx hb dX8_reads_374 ?_
                      refine kk_iald hx hb hK hq 3 2 rfl rfl ((u_158.2.1 - 1).toNatClampNeg) (kk_cl hp.1) (kk_clt hp.1 hp.2.1) (by decide) dX8_reads_375 ?_
                      refine lv_sipush (v := 1000) hx hb dX8_reads_376 (by decide) ?_
                      refine lv_icmp_ge (tgt := 416) hx hb dX8_reads_379 (by decide) (fun c_174 => ?_) (fun c_174 => ?_)
                      · skip
                        refine lv_aload_n hx hb dX8_reads_416 rfl (lv_at hl 4 rfl) ?_
                        refine lv_dup hx hb dX8_reads_417 rfl ?_
                        refine kk_get (ci := 8) (v := .int u_17) (C := RX8) (T := TX8) (N := 22) hx hb hts iX8 hown hK hq 1 rfl rfl 4 (by decide) lk0_ rfl dX8_reads_418 ?_
                        refine lv_iconst (v := 1) hx hb dX8_reads_421 (by decide) ?_
                        refine lv_iadd hx hb dX8_reads_422 ?_
                        refine lv_topi (fun at_175 eat_175 => ?_)
                        refine kk_put (ws' := [(aNw, .inl (cNw, 139, .inr (.inl fNw))), (aM, .inr (8, [.ref aNw, .ref rM_kept, .ref rM_isKept, .ref rM_refused, .int at_175, .int fl, .ref aVs, .int u_158.1, .ref aSg, .int u_158.2.1, .long M_tells, .int M_way, .int M_wish, .long M_moreTick, .long M_moreForce, .int M_runTurns, .long M_runFirst, .long M_runLast, .ref rM_was, .long M_peak, .long M_beside, .int M_besideAt])), (aVs, .inl (cVs, 64, .inr (.inl u_158.2.2))), (aSg, .inl (cSg, 128, .inl sf))]) (ci := 8) (v := .int at_175) (C := RX8) (T := TX8) (N := 22) hx hb hts iX8 tyX8_ok nmX8 hown hK hq 1 rfl rfl 4 (by decide) lk0_ rfl rfl rfl (Nat.le_of_ble_eq_true rfl) dX8_reads_423 rfl (fun H locs hq => ?_)
                        have eAt := eat_175
                        have iAt : at_175.toInt = _ := (congrArg Int32.toInt eat_175).trans (kk_inc (by omega))
                        have iA6 : at_175.toInt ≤ 60 := by omega
                        refine lv_aload_n hx hb dX8_reads_426 rfl (lv_at hl 4 rfl) ?_
                        refine kk_get (ci := 8) (v := .ref aSg) (C := RX8) (T := TX8) (N := 22) hx hb hts iX8 hown hK hq 1 rfl rfl 8 (by decide) lk4_ rfl dX8_reads_427 ?_
                        refine lv_aload_n hx hb dX8_reads_430 rfl (lv_at hl 4 rfl) ?_
                        refine kk_get (ci := 8) (v := .int u_158.2.1) (C := RX8) (T := TX8) (N := 22) hx hb hts iX8 hown hK hq 1 rfl rfl 9 (by decide) lk3_ rfl dX8_reads_431 ?_
                        refine lv_iload hx hb dX8_reads_434 (lv_at hl 0 rfl) ?_
                        refine kk_iast (ws' := [(aNw, .inl (cNw, 139, .inr (.inl fNw))), (aM, .inr (8, [.ref aNw, .ref rM_kept, .ref rM_isKept, .ref rM_refused, .int at_175, .int fl, .ref aVs, .int u_158.1, .ref aSg, .int u_158.2.1, .long M_tells, .int M_way, .int M_wish, .long M_moreTick, .long M_moreForce, .int M_runTurns, .long M_runFirst, .long M_runLast, .ref rM_was, .long M_peak, .long M_beside, .int M_besideAt])), (aVs, .inl (cVs, 64, .inr (.inl u_158.2.2))), (aSg, .inl (cSg, 128, .inl (upd sf u_158.2.1.toNatClampNeg r_18)))]) hx hb hK hq 3 2 rfl rfl u_158.2.1.toNatClampNeg (kk_cl d0_) (kk_clt d0_ sm9) (by decide) dX8_reads_436 rfl (fun H locs hq => ?_)
                        obtain ⟨fSg_176, efSg_176⟩ : ∃ z : Nat → Int32, z = upd sf u_158.2.1.toNatClampNeg r_18 := ⟨_, rfl⟩
                        rw [← efSg_176] at hq
                        have eSf := efSg_176
                        refine lv_aload_n hx hb dX8_reads_437 rfl (lv_at hl 4 rfl) ?_
                        refine lv_dup hx hb dX8_reads_438 rfl ?_
                        refine kk_get (ci := 8) (v := .int u_158.2.1) (C := RX8) (T := TX8) (N := 22) hx hb hts iX8 hown hK hq 1 rfl rfl 9 (by decide) lk3_ rfl dX8_reads_439 ?_
                        refine lv_iconst (v := 1) hx hb dX8_reads_442 (by decide) ?_
                        refine lv_iadd hx hb dX8_reads_443 ?_
                        refine lv_topi (fun signMany_177 esignMany_177 => ?_)
                        refine kk_put (ws' := [(aNw, .inl (cNw, 139, .inr (.inl fNw))), (aM, .inr (8, [.ref aNw, .ref rM_kept, .ref rM_isKept, .ref rM_refused, .int at_175, .int fl, .ref aVs, .int u_158.1, .ref aSg, .int signMany_177, .long M_tells, .int M_way, .int M_wish, .long M_moreTick, .long M_moreForce, .int M_runTurns, .long M_runFirst, .long M_runLast, .ref rM_was, .long M_peak, .long M_beside, .int M_besideAt])), (aVs, .inl (cVs, 64, .inr (.inl u_158.2.2))), (aSg, .inl (cSg, 128, .inl fSg_176))]) (ci := 8) (v := .int signMany_177) (C := RX8) (T := TX8) (N := 22) hx hb hts iX8 tyX8_ok nmX8 hown hK hq 1 rfl rfl 9 (by decide) lk3_ rfl rfl rfl (Nat.le_of_ble_eq_true rfl) dX8_reads_444 rfl (fun H locs hq => ?_)
                        have riN := RI_bin riw h60 eAt esignMany_177 rk.1 rk.2.1
                        rw [← eSf] at riN
                        refine lv_iconst (v := 1) hx hb dX8_reads_447 (by decide) ?_
                        refine lv_istore_n (lv' := [(2, .int 1), (4, .int r_18), (3, .int go), (1, .int op), (0, .ref aM)]) hx hb dX8_reads_448 rfl hl (by decide) rfl (fun ls hl => ?_)
                        refine lv_goto (tgt := 485) hx hb dX8_reads_449 (by decide) ?_
                        refine lv_goto (tgt := 26) hx hb dX8_reads_485 (by decide) ?_
                        have hst_178 : lpX8_reads_26 fNw (N26 + 1) op wa go at_ fl vn sm vf sf = lpX8_reads_26 fNw N26 op 1 go at_175 fl u_158.1 signMany_177 u_158.2.2 fSg_176 := by
                          subst esignMany_177 efSg_176 eat_175 er_162 eu_158 er_121 er_107 eu_17 er_18
                          exact (if_neg c_1).trans ((if_pos c_9).trans ((if_pos c_20).trans ((if_pos c_21).trans ((if_pos c_105).trans ((if_neg c_109).trans ((if_pos c_123).trans ((if_pos c_164).trans ((if_neg c_169).trans ((if_pos c_174).trans (rfl))))))))))
                        exact ih26 op 1 go at_175 fl u_158.1 signMany_177 u_158.2.2 fSg_176 _ _ _ ⟨(hrel26.trans (hst_178)), (by assumption), (by omega), (by first | assumption | exact ⟨by omega, Or.inr (Or.inr (by omega))⟩ | exact ⟨by omega, Or.inr (Or.inl (by assumption))⟩ | exact ⟨by omega, Or.inl rfl⟩), lv_sub hl [2, 0, 3, 4] rfl, (kk_sub hq [1, 0, 2, 3] rfl (by decide))⟩
                      · skip
                        refine lv_aload_n hx hb dX8_reads_382 rfl (lv_at hl 4 rfl) ?_
                        refine kk_get (ci := 8) (v := .ref aSg) (C := RX8) (T := TX8) (N := 22) hx hb hts iX8 hown hK hq 1 rfl rfl 8 (by decide) lk4_ rfl dX8_reads_383 ?_
                        refine lv_aload_n hx hb dX8_reads_386 rfl (lv_at hl 4 rfl) ?_
                        refine kk_get (ci := 8) (v := .int u_158.2.1) (C := RX8) (T := TX8) (N := 22) hx hb hts iX8 hown hK hq 1 rfl rfl 9 (by decide) lk3_ rfl dX8_reads_387 ?_
                        refine lv_iconst (v := 1) hx hb dX8_reads_390 (by decide) ?_
                        refine lv_isub hx hb dX8_reads_391 ?_
                        refine kk_iald hx hb hK hq 3 2 rfl rfl ((u_158.2.1 - 1).toNatClampNeg) (kk_cl hp.1) (kk_clt hp.1 hp.2.1) (by decide) dX8_reads_392 ?_
                        refine kk_Si (As := [.int (sf ((u_158.2.1 - 1).toNatClampNeg))]) (rest := []) (wr := [(aNw, .inl (cNw, 139, .inr (.inl fNw))), (aM, .inr (8, [.ref aNw, .ref rM_kept, .ref rM_isKept, .ref rM_refused, .int u_17, .int fl, .ref aVs, .int u_158.1, .ref aSg, .int u_158.2.1, .long M_tells, .int M_way, .int M_wish, .long M_moreTick, .long M_moreForce, .int M_runTurns, .long M_runFirst, .long M_runLast, .ref rM_was, .long M_peak, .long M_beside, .int M_besideAt])), (aVs, .inl (cVs, 64, .inr (.inl u_158.2.2))), (aSg, .inl (cSg, 128, .inl sf))]) ⟨hx, hb, hml, hown, hts⟩ (c_X8_rank l G (sf ((u_158.2.1 - 1).toNatClampNeg))) (kk_cwS 1 hts hsb wd_321 wd_322 wd_5 wd_323 rfl rfl hd_X8_rank ⟨Nat.le_of_ble_eq_true rfl, Nat.le_of_ble_eq_true rfl⟩) hA hK hq [] [0, 1, 2, 3] [] rfl rfl rfl (by decide) (by decide) (by decide) rfl hl.1 rfl (Nat.le_of_ble_eq_true rfl) dX8_reads_393 ⟨Nat.zero_le _, Nat.zero_le _⟩ (fun r_180 u_179 H locs h_181 hq => ?_)
                        have er_180 := h_181
                        have hq : kAt G A s [(aNw, .inl (cNw, 139, .inr (.inl fNw))), (aM, .inr (8, [.ref aNw, .ref rM_kept, .ref rM_isKept, .ref rM_refused, .int u_17, .int fl, .ref aVs, .int u_158.1, .ref aSg, .int u_158.2.1, .long M_tells, .int M_way, .int M_wish, .long M_moreTick, .long M_moreForce, .int M_runTurns, .long M_runFirst, .long M_runLast, .ref rM_was, .long M_peak, .long M_beside, .int M_besideAt])), (aVs, .inl (cVs, 64, .inr (.inl u_158.2.2))), (aSg, .inl (cSg, 128, .inl sf))] H locs := hq
                        refine lv_iconst (v := 3) hx hb dX8_reads_396 (by decide) ?_
                        refine lv_icmp_ne (tgt := 416) hx hb dX8_reads_397 (by decide) (fun c_182 => ?_) (fun c_182 => ?_)
                        · skip
                          refine lv_aload_n hx hb dX8_reads_416 rfl (lv_at hl 4 rfl) ?_
                          refine lv_dup hx hb dX8_reads_417 rfl ?_
                          refine kk_get (ci := 8) (v := .int u_17) (C := RX8) (T := TX8) (N := 22) hx hb hts iX8 hown hK hq 1 rfl rfl 4 (by decide) lk0_ rfl dX8_reads_418 ?_
                          refine lv_iconst (v := 1) hx hb dX8_reads_421 (by decide) ?_
                          refine lv_iadd hx hb dX8_reads_422 ?_
                          refine lv_topi (fun at_183 eat_183 => ?_)
                          refine kk_put (ws' := [(aNw, .inl (cNw, 139, .inr (.inl fNw))), (aM, .inr (8, [.ref aNw, .ref rM_kept, .ref rM_isKept, .ref rM_refused, .int at_183, .int fl, .ref aVs, .int u_158.1, .ref aSg, .int u_158.2.1, .long M_tells, .int M_way, .int M_wish, .long M_moreTick, .long M_moreForce, .int M_runTurns, .long M_runFirst, .long M_runLast, .ref rM_was, .long M_peak, .long M_beside, .int M_besideAt])), (aVs, .inl (cVs, 64, .inr (.inl u_158.2.2))), (aSg, .inl (cSg, 128, .inl sf))]) (ci := 8) (v := .int at_183) (C := RX8) (T := TX8) (N := 22) hx hb hts iX8 tyX8_ok nmX8 hown hK hq 1 rfl rfl 4 (by decide) lk0_ rfl rfl rfl (Nat.le_of_ble_eq_true rfl) dX8_reads_423 rfl (fun H locs hq => ?_)
                          have eAt := eat_183
                          have iAt : at_183.toInt = _ := (congrArg Int32.toInt eat_183).trans (kk_inc (by omega))
                          have iA6 : at_183.toInt ≤ 60 := by omega
                          refine lv_aload_n hx hb dX8_reads_426 rfl (lv_at hl 4 rfl) ?_
                          refine kk_get (ci := 8) (v := .ref aSg) (C := RX8) (T := TX8) (N := 22) hx hb hts iX8 hown hK hq 1 rfl rfl 8 (by decide) lk4_ rfl dX8_reads_427 ?_
                          refine lv_aload_n hx hb dX8_reads_430 rfl (lv_at hl 4 rfl) ?_
                          refine kk_get (ci := 8) (v := .int u_158.2.1) (C := RX8) (T := TX8) (N := 22) hx hb hts iX8 hown hK hq 1 rfl rfl 9 (by decide) lk3_ rfl dX8_reads_431 ?_
                          refine lv_iload hx hb dX8_reads_434 (lv_at hl 0 rfl) ?_
                          refine kk_iast (ws' := [(aNw, .inl (cNw, 139, .inr (.inl fNw))), (aM, .inr (8, [.ref aNw, .ref rM_kept, .ref rM_isKept, .ref rM_refused, .int at_183, .int fl, .ref aVs, .int u_158.1, .ref aSg, .int u_158.2.1, .long M_tells, .int M_way, .int M_wish, .long M_moreTick, .long M_moreForce, .int M_runTurns, .long M_runFirst, .long M_runLast, .ref rM_was, .long M_peak, .long M_beside, .int M_besideAt])), (aVs, .inl (cVs, 64, .inr (.inl u_158.2.2))), (aSg, .inl (cSg, 128, .inl (upd sf u_158.2.1.toNatClampNeg r_18)))]) hx hb hK hq 3 2 rfl rfl u_158.2.1.toNatClampNeg (kk_cl d0_) (kk_clt d0_ sm9) (by decide) dX8_reads_436 rfl (fun H locs hq => ?_)
                          obtain ⟨fSg_184, efSg_184⟩ : ∃ z : Nat → Int32, z = upd sf u_158.2.1.toNatClampNeg r_18 := ⟨_, rfl⟩
                          rw [← efSg_184] at hq
                          have eSf := efSg_184
                          refine lv_aload_n hx hb dX8_reads_437 rfl (lv_at hl 4 rfl) ?_
                          refine lv_dup hx hb dX8_reads_438 rfl ?_
                          refine kk_get (ci := 8) (v := .int u_158.2.1) (C := RX8) (T := TX8) (N := 22) hx hb hts iX8 hown hK hq 1 rfl rfl 9 (by decide) lk3_ rfl dX8_reads_439 ?_
                          refine lv_iconst (v := 1) hx hb dX8_reads_442 (by decide) ?_
                          refine lv_iadd hx hb dX8_reads_443 ?_
                          refine lv_topi (fun signMany_185 esignMany_185 => ?_)
                          refine kk_put (ws' := [(aNw, .inl (cNw, 139, .inr (.inl fNw))), (aM, .inr (8, [.ref aNw, .ref rM_kept, .ref rM_isKept, .ref rM_refused, .int at_183, .int fl, .ref aVs, .int u_158.1, .ref aSg, .int signMany_185, .long M_tells, .int M_way, .int M_wish, .long M_moreTick, .long M_moreForce, .int M_runTurns, .long M_runFirst, .long M_runLast, .ref rM_was, .long M_peak, .long M_beside, .int M_besideAt])), (aVs, .inl (cVs, 64, .inr (.inl u_158.2.2))), (aSg, .inl (cSg, 128, .inl fSg_184))]) (ci := 8) (v := .int signMany_185) (C := RX8) (T := TX8) (N := 22) hx hb hts iX8 tyX8_ok nmX8 hown hK hq 1 rfl rfl 9 (by decide) lk3_ rfl rfl rfl (Nat.le_of_ble_eq_true rfl) dX8_reads_444 rfl (fun H locs hq => ?_)
                          have riN := RI_bin riw h60 eAt esignMany_185 rk.1 rk.2.1
                          rw [← eSf] at riN
                          refine lv_iconst (v := 1) hx hb dX8_reads_447 (by decide) ?_
                          refine lv_istore_n (lv' := [(2, .int 1), (4, .int r_18), (3, .int go), (1, .int op), (0, .ref aM)]) hx hb dX8_reads_448 rfl hl (by decide) rfl (fun ls hl => ?_)
                          refine lv_goto (tgt := 485) hx hb dX8_reads_449 (by decide) ?_
                          refine lv_goto (tgt := 26) hx hb dX8_reads_485 (by decide) ?_
                          have hst_186 : lpX8_reads_26 fNw (N26 + 1) op wa go at_ fl vn sm vf sf = lpX8_reads_26 fNw N26 op 1 go at_183 fl u_158.1 signMany_185 u_158.2.2 fSg_184 := by
                            subst esignMany_185 efSg_184 eat_183 er_180 er_162 eu_158 er_121 er_107 eu_17 er_18
                            exact (if_neg c_1).trans ((if_pos c_9).trans ((if_pos c_20).trans ((if_pos c_21).trans ((if_pos c_105).trans ((if_neg c_109).trans ((if_pos c_123).trans ((if_pos c_164).trans ((if_neg c_169).trans ((if_neg c_174).trans ((if_neg c_182).trans (rfl)))))))))))
                          exact ih26 op 1 go at_183 fl u_158.1 signMany_185 u_158.2.2 fSg_184 _ _ _ ⟨(hrel26.trans (hst_186)), (by assumption), (by omega), (by first | assumption | exact ⟨by omega, Or.inr (Or.inr (by omega))⟩ | exact ⟨by omega, Or.inr (Or.inl (by assumption))⟩ | exact ⟨by omega, Or.inl rfl⟩), lv_sub hl [2, 0, 3, 4] rfl, (kk_sub hq [1, 0, 2, 3] rfl (by decide))⟩
                        · skip
                          refine lv_aload_n hx hb dX8_reads_400 rfl (lv_at hl 4 rfl) ?_
                          refine lv_bipush (v := 10) hx hb dX8_reads_401 (by decide) ?_
                          refine lv_aload_n hx hb dX8_reads_403 rfl (lv_at hl 4 rfl) ?_
                          refine kk_get (ci := 8) (v := .int u_17) (C := RX8) (T := TX8) (N := 22) hx hb hts iX8 hown hK hq 1 rfl rfl 4 (by decide) lk0_ rfl dX8_reads_404 ?_
                          refine lv_imul hx hb dX8_reads_407 ?_
                          refine lv_iconst (v := 1) hx hb dX8_reads_408 (by decide) ?_
                          refine lv_iadd hx hb dX8_reads_409 ?_
                          refine lv_topi (fun fault_187 efault_187 => ?_)
                          refine kk_put (ws' := [(aNw, .inl (cNw, 139, .inr (.inl fNw))), (aM, .inr (8, [.ref aNw, .ref rM_kept, .ref rM_isKept, .ref rM_refused, .int u_17, .int fault_187, .ref aVs, .int u_158.1, .ref aSg, .int u_158.2.1, .long M_tells, .int M_way, .int M_wish, .long M_moreTick, .long M_moreForce, .int M_runTurns, .long M_runFirst, .long M_runLast, .ref rM_was, .long M_peak, .long M_beside, .int M_besideAt])), (aVs, .inl (cVs, 64, .inr (.inl u_158.2.2))), (aSg, .inl (cSg, 128, .inl sf))]) (ci := 8) (v := .int fault_187) (C := RX8) (T := TX8) (N := 22) hx hb hts iX8 tyX8_ok nmX8 hown hK hq 1 rfl rfl 5 (by decide) lk1_ rfl rfl rfl (Nat.le_of_ble_eq_true rfl) dX8_reads_410 rfl (fun H locs hq => ?_)
                          have hflt := fl_ne (k := 1) efault_187 u0 u1 (by decide) (by decide)
                          refine lv_goto (tgt := 485) hx hb dX8_reads_413 (by decide) ?_
                          refine lv_goto (tgt := 26) hx hb dX8_reads_485 (by decide) ?_
                          have hst_188 : lpX8_reads_26 fNw (N26 + 1) op wa go at_ fl vn sm vf sf = lpX8_reads_26 fNw N26 op wa go u_17 fault_187 u_158.1 u_158.2.1 u_158.2.2 sf := by
                            subst efault_187 er_180 er_162 eu_158 er_121 er_107 eu_17 er_18
                            exact (if_neg c_1).trans ((if_pos c_9).trans ((if_pos c_20).trans ((if_pos c_21).trans ((if_pos c_105).trans ((if_neg c_109).trans ((if_pos c_123).trans ((if_pos c_164).trans ((if_neg c_169).trans ((if_neg c_174).trans ((if_pos c_182).trans (rfl)))))))))))
                          exact ih26 op wa go u_17 fault_187 u_158.1 u_158.2.1 u_158.2.2 sf _ _ _ ⟨(hrel26.trans (hst_188)), (by assumption), (by omega), (by first | assumption | exact ⟨by omega, Or.inr (Or.inr (by omega))⟩ | exact ⟨by omega, Or.inr (Or.inl (by assumption))⟩ | exact ⟨by omega, Or.inl rfl⟩), lv_sub hl [1, 2, 3, 4] rfl, (kk_sub hq [1, 0, 2, 3] rfl (by decide))⟩
            · skip
              have hop := kk_nle2 (k := 0) rfl c_105
              have h60 := nx_lt nx (fun e => absurd (hc41.symm.trans e) (by decide)) l1
              refine lv_aload_n hx hb dX8_reads_265 rfl (lv_at hl 4 rfl) ?_
              refine lv_dup hx hb dX8_reads_266 rfl ?_
              refine kk_get (ci := 8) (v := .int u_17) (C := RX8) (T := TX8) (N := 22) hx hb hts iX8 hown hK hq 2 rfl rfl 4 (by decide) lk0_ rfl dX8_reads_267 ?_
              refine lv_iconst (v := 1) hx hb dX8_reads_270 (by decide) ?_
              refine lv_iadd hx hb dX8_reads_271 ?_
              refine lv_topi (fun at_189 eat_189 => ?_)
              refine kk_put (ws' := [(aVs, .inl (cVs, 64, .inr (.inl vf))), (aSg, .inl (cSg, 128, .inl sf)), (aM, .inr (8, [.ref aNw, .ref rM_kept, .ref rM_isKept, .ref rM_refused, .int at_189, .int fl, .ref aVs, .int vn, .ref aSg, .int sm, .long M_tells, .int M_way, .int M_wish, .long M_moreTick, .long M_moreForce, .int M_runTurns, .long M_runFirst, .long M_runLast, .ref rM_was, .long M_peak, .long M_beside, .int M_besideAt])), (aNw, .inl (cNw, 139, .inr (.inl fNw)))]) (ci := 8) (v := .int at_189) (C := RX8) (T := TX8) (N := 22) hx hb hts iX8 tyX8_ok nmX8 hown hK hq 2 rfl rfl 4 (by decide) lk0_ rfl rfl rfl (Nat.le_of_ble_eq_true rfl) dX8_reads_272 rfl (fun H locs hq => ?_)
              have eAt := eat_189
              have iAt : at_189.toInt = _ := (congrArg Int32.toInt eat_189).trans (kk_inc (by omega))
              have iA6 : at_189.toInt ≤ 60 := by omega
              refine lv_iinc (v := op + (-1)) (lv' := [(1, .int (op + (-1))), (4, .int r_18), (3, .int go), (2, .int wa), (0, .ref aM)]) hx hb dX8_reads_275 hl (k := 3) rfl rfl (by decide) rfl (fun ls hl => ?_)
              refine lv_aload_n hx hb dX8_reads_278 rfl (lv_at hl 4 rfl) ?_
              refine lv_iconst (v := 1) hx hb dX8_reads_279 (by decide) ?_
              refine kk_Vv (As := [.int 1]) (rest := []) (wr := [(aNw, .inl (cNw, 139, .inr (.inl fNw)))]) ⟨hx, hb, hml, hown, hts⟩ (c_X8_workDown l G aM aVs aSg aNw rM_kept rM_isKept rM_refused rM_was cVs cSg 1 at_189 fl vn sm M_tells M_way M_wish M_moreTick M_moreForce M_runTurns M_runFirst M_runLast M_peak M_beside M_besideAt vf sf s0 s1 hvb v2) (kk_cwV 1 hts hsb wd_317 wd_318 wd_319 wd_5 wd_320 rfl rfl hd_X8_workDown ⟨Nat.le_of_ble_eq_true rfl, Nat.le_of_ble_eq_true rfl⟩) hA hK hq [2, 0, 1] [3] [1, 2] rfl rfl rfl (by decide) (by decide) (by decide) 0 8 rfl rfl rfl rfl hl.1 rfl (Nat.le_of_ble_eq_true rfl) dX8_reads_280 ⟨Nat.zero_le _, Nat.zero_le _⟩ (fun u_190 H locs h_192 hq => ?_)
              obtain ⟨eu_190, d0_u_190, d1_u_190, d2_u_190, d4_u_190, d5_u_190, d3_u_190⟩ := h_192
              have hq : kAt G A s [(aNw, .inl (cNw, 139, .inr (.inl fNw))), (aM, .inr (8, [.ref aNw, .ref rM_kept, .ref rM_isKept, .ref rM_refused, .int at_189, .int fl, .ref aVs, .int u_190.1, .ref aSg, .int u_190.2.1, .long M_tells, .int M_way, .int M_wish, .long M_moreTick, .long M_moreForce, .int M_runTurns, .long M_runFirst, .long M_runLast, .ref rM_was, .long M_peak, .long M_beside, .int M_besideAt])), (aVs, .inl (cVs, 64, .inr (.inl u_190.2.2))), (aSg, .inl (cSg, 128, .inl sf))] H locs := hq
              have riw := RI_wd ri0 d0_u_190 d1_u_190 d2_u_190 d4_u_190 d5_u_190
              have rvw := RI_v riw
              have htop := RI_top riw hop d3_u_190
              have htp := htop.1
              refine lv_aload_n hx hb dX8_reads_283 rfl (lv_at hl 4 rfl) ?_
              refine lv_dup hx hb dX8_reads_284 rfl ?_
              refine kk_get (ci := 8) (v := .int u_190.2.1) (C := RX8) (T := TX8) (N := 22) hx hb hts iX8 hown hK hq 1 rfl rfl 9 (by decide) lk3_ rfl dX8_reads_285 ?_
              refine lv_iconst (v := 1) hx hb dX8_reads_288 (by decide) ?_
              refine lv_isub hx hb dX8_reads_289 ?_
              refine lv_topi (fun signMany_193 esignMany_193 => ?_)
              refine kk_put (ws' := [(aNw, .inl (cNw, 139, .inr (.inl fNw))), (aM, .inr (8, [.ref aNw, .ref rM_kept, .ref rM_isKept, .ref rM_refused, .int at_189, .int fl, .ref aVs, .int u_190.1, .ref aSg, .int signMany_193, .long M_tells, .int M_way, .int M_wish, .long M_moreTick, .long M_moreForce, .int M_runTurns, .long M_runFirst, .long M_runLast, .ref rM_was, .long M_peak, .long M_beside, .int M_besideAt])), (aVs, .inl (cVs, 64, .inr (.inl u_190.2.2))), (aSg, .inl (cSg, 128, .inl sf))]) (ci := 8) (v := .int signMany_193) (C := RX8) (T := TX8) (N := 22) hx hb hts iX8 tyX8_ok nmX8 hown hK hq 1 rfl rfl 9 (by decide) lk3_ rfl rfl rfl (Nat.le_of_ble_eq_true rfl) dX8_reads_290 rfl (fun H locs hq => ?_)
              have eS2 := esignMany_193
              have iS2 := (congrArg Int32.toInt esignMany_193).trans (kk_dec (by omega))
              have t0 : 0 ≤ signMany_193.toInt := by omega
              have t1 : signMany_193.toInt ≤ 100 := by omega
              refine lv_aload_n hx hb dX8_reads_293 rfl (lv_at hl 4 rfl) ?_
              refine lv_dup hx hb dX8_reads_294 rfl ?_
              refine kk_get (ci := 8) (v := .int u_190.1) (C := RX8) (T := TX8) (N := 22) hx hb hts iX8 hown hK hq 1 rfl rfl 7 (by decide) lk2_ rfl dX8_reads_295 ?_
              refine lv_iconst (v := 1) hx hb dX8_reads_298 (by decide) ?_
              refine lv_isub hx hb dX8_reads_299 ?_
              refine lv_topi (fun valueMany_194 evalueMany_194 => ?_)
              refine kk_put (ws' := [(aNw, .inl (cNw, 139, .inr (.inl fNw))), (aM, .inr (8, [.ref aNw, .ref rM_kept, .ref rM_isKept, .ref rM_refused, .int at_189, .int fl, .ref aVs, .int valueMany_194, .ref aSg, .int signMany_193, .long M_tells, .int M_way, .int M_wish, .long M_moreTick, .long M_moreForce, .int M_runTurns, .long M_runFirst, .long M_runLast, .ref rM_was, .long M_peak, .long M_beside, .int M_besideAt])), (aVs, .inl (cVs, 64, .inr (.inl u_190.2.2))), (aSg, .inl (cSg, 128, .inl sf))]) (ci := 8) (v := .int valueMany_194) (C := RX8) (T := TX8) (N := 22) hx hb hts iX8 tyX8_ok nmX8 hown hK hq 1 rfl rfl 7 (by decide) lk2_ rfl rfl rfl (Nat.le_of_ble_eq_true rfl) dX8_reads_300 rfl (fun H locs hq => ?_)
              have eV2 := evalueMany_194
              have iV2 := (congrArg Int32.toInt evalueMany_194).trans (kk_dec (by omega))
              have w0 : 0 ≤ valueMany_194.toInt := by omega
              have w1 : valueMany_194.toInt < 64 := by omega
              have w8 : valueMany_194.toInt < (64 : Nat) := by omega
              refine lv_aload_n hx hb dX8_reads_303 rfl (lv_at hl 4 rfl) ?_
              refine lv_aload_n hx hb dX8_reads_304 rfl (lv_at hl 4 rfl) ?_
              refine kk_get (ci := 8) (v := .ref aVs) (C := RX8) (T := TX8) (N := 22) hx hb hts iX8 hown hK hq 1 rfl rfl 6 (by decide) lk5_ rfl dX8_reads_305 ?_
              refine lv_aload_n hx hb dX8_reads_308 rfl (lv_at hl 4 rfl) ?_
              refine kk_get (ci := 8) (v := .int valueMany_194) (C := RX8) (T := TX8) (N := 22) hx hb hts iX8 hown hK hq 1 rfl rfl 7 (by decide) lk2_ rfl dX8_reads_309 ?_
              refine kk_lald hx hb hK hq 2 1 rfl rfl valueMany_194.toNatClampNeg (kk_cl w0) (kk_clt w0 w8) (by decide) dX8_reads_312 ?_
              refine kk_Vv (As := [.long (u_190.2.2 valueMany_194.toNatClampNeg)]) (rest := []) (wr := [(aNw, .inl (cNw, 139, .inr (.inl fNw)))]) ⟨hx, hb, hml, hown, hts⟩ (c_X8_stands l G aM aVs aSg aNw rM_kept rM_isKept rM_refused rM_was cVs cSg (u_190.2.2 valueMany_194.toNatClampNeg) at_189 fl valueMany_194 signMany_193 M_tells M_way M_wish M_moreTick M_moreForce M_runTurns M_runFirst M_runLast M_peak M_beside M_besideAt u_190.2.2 sf t0 t1 w0 w1) (kk_cwV 1 hts hsb wd_310 wd_311 wd_312 wd_5 wd_313 rfl rfl hd_X8_stands ⟨Nat.le_of_ble_eq_true rfl, Nat.le_of_ble_eq_true rfl⟩) hA hK hq [1, 2, 3] [0] [1, 2] rfl rfl rfl (by decide) (by decide) (by decide) 0 8 rfl rfl rfl rfl hl.1 rfl (Nat.le_of_ble_eq_true rfl) dX8_reads_313 ⟨Nat.zero_le _, Nat.zero_le _⟩ (fun u_195 H locs h_197 hq => ?_)
              obtain ⟨eu_195, b1_u_195, b2_u_195, b3_u_195, b4_u_195, b5_u_195, b6_u_195⟩ := h_197
              have hq : kAt G A s [(aNw, .inl (cNw, 139, .inr (.inl fNw))), (aM, .inr (8, [.ref aNw, .ref rM_kept, .ref rM_isKept, .ref rM_refused, .int at_189, .int fl, .ref aVs, .int u_195.1, .ref aSg, .int u_195.2.1, .long M_tells, .int M_way, .int M_wish, .long M_moreTick, .long M_moreForce, .int M_runTurns, .long M_runFirst, .long M_runLast, .ref rM_was, .long M_peak, .long M_beside, .int M_besideAt])), (aVs, .inl (cVs, 64, .inr (.inl u_195.2.2))), (aSg, .inl (cSg, 128, .inl sf))] H locs := hq
              have riN := RI_wa (RI_close riw hop htop h60 eAt eS2 eV2 rfl b1_u_195 b2_u_195 b3_u_195 b4_u_195 b5_u_195 b6_u_195) hwa0
              refine lv_goto (tgt := 485) hx hb dX8_reads_316 (by decide) ?_
              refine lv_goto (tgt := 26) hx hb dX8_reads_485 (by decide) ?_
              have hst_198 : lpX8_reads_26 fNw (N26 + 1) op wa go at_ fl vn sm vf sf = lpX8_reads_26 fNw N26 (op + (-1)) wa go at_189 fl u_195.1 u_195.2.1 u_195.2.2 sf := by
                subst eu_195 evalueMany_194 esignMany_193 eu_190 eat_189 eu_17 er_18
                exact (if_neg c_1).trans ((if_pos c_9).trans ((if_pos c_20).trans ((if_pos c_21).trans ((if_neg c_105).trans (rfl)))))
              exact ih26 (op + (-1)) wa go at_189 fl u_195.1 u_195.2.1 u_195.2.2 sf _ _ _ ⟨(hrel26.trans (hst_198)), (by assumption), (by omega), (by first | assumption | exact ⟨by omega, Or.inr (Or.inr (by omega))⟩ | exact ⟨by omega, Or.inr (Or.inl (by assumption))⟩ | exact ⟨by omega, Or.inl rfl⟩), lv_sub hl [2, 3, 0, 4] rfl, (kk_sub hq [1, 0, 2, 3] rfl (by decide))⟩
        · skip
          have hwa := c_20
          refine lv_iload hx hb dX8_reads_48 (lv_at hl 0 rfl) ?_
          refine lv_i2l hx hb dX8_reads_50 rfl ?_
          refine lv_ldc2 hx hb hown lk6_ dX8_reads_51 ?_
          refine lv_ldc2 hx hb hown lk7_ dX8_reads_54 ?_
          refine kk_Si (As := [.long r_18.toInt64, .long 48, .long 57]) (rest := []) (wr := [(aVs, .inl (cVs, 64, .inr (.inl vf))), (aSg, .inl (cSg, 128, .inl sf)), (aM, .inr (8, [.ref aNw, .ref rM_kept, .ref rM_isKept, .ref rM_refused, .int u_17, .int fl, .ref aVs, .int vn, .ref aSg, .int sm, .long M_tells, .int M_way, .int M_wish, .long M_moreTick, .long M_moreForce, .int M_runTurns, .long M_runFirst, .long M_runLast, .ref rM_was, .long M_peak, .long M_beside, .int M_besideAt])), (aNw, .inl (cNw, 139, .inr (.inl fNw)))]) ⟨hx, hb, hml, hown, hts⟩ (c_X8_in l G r_18.toInt64 48 57) (kk_cwS 3 hts hsb wd_156 wd_157 wd_5 wd_158 rfl rfl hd_X8_in ⟨Nat.le_of_ble_eq_true rfl, Nat.le_of_ble_eq_true rfl⟩) hA hK hq [] [0, 1, 2, 3] [] rfl rfl rfl (by decide) (by decide) (by decide) rfl hl.1 rfl (Nat.le_of_ble_eq_true rfl) dX8_reads_57 ⟨Nat.zero_le _, Nat.zero_le _⟩ (fun r_200 u_199 H locs h_201 hq => ?_)
          obtain ⟨er_200, zr_200⟩ := h_201
          have hq : kAt G A s [(aVs, .inl (cVs, 64, .inr (.inl vf))), (aSg, .inl (cSg, 128, .inl sf)), (aM, .inr (8, [.ref aNw, .ref rM_kept, .ref rM_isKept, .ref rM_refused, .int u_17, .int fl, .ref aVs, .int vn, .ref aSg, .int sm, .long M_tells, .int M_way, .int M_wish, .long M_moreTick, .long M_moreForce, .int M_runTurns, .long M_runFirst, .long M_runLast, .ref rM_was, .long M_peak, .long M_beside, .int M_besideAt])), (aNw, .inl (cNw, 139, .inr (.inl fNw)))] H locs := hq
          have hin := er_200
          refine lv_if_eq (tgt := 76) hx hb dX8_reads_60 (by decide) (fun c_202 => ?_) (fun c_202 => ?_)
          · skip
            refine lv_iload hx hb dX8_reads_76 (lv_at hl 0 rfl) ?_
            refine kk_Si (As := [.int r_18]) (rest := []) (wr := [(aVs, .inl (cVs, 64, .inr (.inl vf))), (aSg, .inl (cSg, 128, .inl sf)), (aM, .inr (8, [.ref aNw, .ref rM_kept, .ref rM_isKept, .ref rM_refused, .int u_17, .int fl, .ref aVs, .int vn, .ref aSg, .int sm, .long M_tells, .int M_way, .int M_wish, .long M_moreTick, .long M_moreForce, .int M_runTurns, .long M_runFirst, .long M_runLast, .ref rM_was, .long M_peak, .long M_beside, .int M_besideAt])), (aNw, .inl (cNw, 139, .inr (.inl fNw)))]) ⟨hx, hb, hml, hown, hts⟩ (c_X8_nameOf l G r_18) (kk_cwS 1 hts hsb wd_314 wd_315 wd_5 wd_316 rfl rfl hd_X8_nameOf ⟨Nat.le_of_ble_eq_true rfl, Nat.le_of_ble_eq_true rfl⟩) hA hK hq [] [0, 1, 2, 3] [] rfl rfl rfl (by decide) (by decide) (by decide) rfl hl.1 rfl (Nat.le_of_ble_eq_true rfl) dX8_reads_78 ⟨Nat.zero_le _, Nat.zero_le _⟩ (fun r_204 u_203 H locs h_205 hq => ?_)
            have er_204 := h_205
            have hq : kAt G A s [(aVs, .inl (cVs, 64, .inr (.inl vf))), (aSg, .inl (cSg, 128, .inl sf)), (aM, .inr (8, [.ref aNw, .ref rM_kept, .ref rM_isKept, .ref rM_refused, .int u_17, .int fl, .ref aVs, .int vn, .ref aSg, .int sm, .long M_tells, .int M_way, .int M_wish, .long M_moreTick, .long M_moreForce, .int M_runTurns, .long M_runFirst, .long M_runLast, .ref rM_was, .long M_peak, .long M_beside, .int M_besideAt])), (aNw, .inl (cNw, 139, .inr (.inl fNw)))] H locs := hq
            have hnm := er_204
            refine lv_iconst (v := -1) hx hb dX8_reads_81 (by decide) ?_
            refine lv_icmp_eq (tgt := 114) hx hb dX8_reads_82 (by decide) (fun c_206 => ?_) (fun c_206 => ?_)
            · skip
              refine lv_iload hx hb dX8_reads_114 (lv_at hl 0 rfl) ?_
              refine lv_bipush (v := 33) hx hb dX8_reads_116 (by decide) ?_
              refine lv_icmp_eq (tgt := 128) hx hb dX8_reads_118 (by decide) (fun c_207 => ?_) (fun c_207 => ?_)
              · skip
                have h60 := nx_lt nx (fun e => absurd (c_207.symm.trans e) (by decide)) l1
                refine lv_aload_n hx hb dX8_reads_128 rfl (lv_at hl 4 rfl) ?_
                refine lv_dup hx hb dX8_reads_129 rfl ?_
                refine kk_get (ci := 8) (v := .int u_17) (C := RX8) (T := TX8) (N := 22) hx hb hts iX8 hown hK hq 2 rfl rfl 4 (by decide) lk0_ rfl dX8_reads_130 ?_
                refine lv_iconst (v := 1) hx hb dX8_reads_133 (by decide) ?_
                refine lv_iadd hx hb dX8_reads_134 ?_
                refine lv_topi (fun at_208 eat_208 => ?_)
                refine kk_put (ws' := [(aVs, .inl (cVs, 64, .inr (.inl vf))), (aSg, .inl (cSg, 128, .inl sf)), (aM, .inr (8, [.ref aNw, .ref rM_kept, .ref rM_isKept, .ref rM_refused, .int at_208, .int fl, .ref aVs, .int vn, .ref aSg, .int sm, .long M_tells, .int M_way, .int M_wish, .long M_moreTick, .long M_moreForce, .int M_runTurns, .long M_runFirst, .long M_runLast, .ref rM_was, .long M_peak, .long M_beside, .int M_besideAt])), (aNw, .inl (cNw, 139, .inr (.inl fNw)))]) (ci := 8) (v := .int at_208) (C := RX8) (T := TX8) (N := 22) hx hb hts iX8 tyX8_ok nmX8 hown hK hq 2 rfl rfl 4 (by decide) lk0_ rfl rfl rfl (Nat.le_of_ble_eq_true rfl) dX8_reads_135 rfl (fun H locs hq => ?_)
                have eAt := eat_208
                have iAt : at_208.toInt = _ := (congrArg Int32.toInt eat_208).trans (kk_inc (by omega))
                have iA6 : at_208.toInt ≤ 60 := by omega
                refine lv_aload_n hx hb dX8_reads_138 rfl (lv_at hl 4 rfl) ?_
                refine kk_get (ci := 8) (v := .ref aSg) (C := RX8) (T := TX8) (N := 22) hx hb hts iX8 hown hK hq 2 rfl rfl 8 (by decide) lk4_ rfl dX8_reads_139 ?_
                refine lv_aload_n hx hb dX8_reads_142 rfl (lv_at hl 4 rfl) ?_
                refine kk_get (ci := 8) (v := .int sm) (C := RX8) (T := TX8) (N := 22) hx hb hts iX8 hown hK hq 2 rfl rfl 9 (by decide) lk3_ rfl dX8_reads_143 ?_
                refine lv_iload hx hb dX8_reads_146 (lv_at hl 0 rfl) ?_
                refine lv_bipush (v := 33) hx hb dX8_reads_148 (by decide) ?_
                refine lv_icmp_ne (tgt := 159) hx hb dX8_reads_150 (by decide) (fun c_209 => ?_) (fun c_209 => ?_)
                · skip
                  refine lv_sipush (v := 1002) hx hb dX8_reads_159 (by decide) ?_
                  refine kk_iast (ws' := [(aVs, .inl (cVs, 64, .inr (.inl vf))), (aSg, .inl (cSg, 128, .inl (upd sf sm.toNatClampNeg 1002))), (aM, .inr (8, [.ref aNw, .ref rM_kept, .ref rM_isKept, .ref rM_refused, .int at_208, .int fl, .ref aVs, .int vn, .ref aSg, .int sm, .long M_tells, .int M_way, .int M_wish, .long M_moreTick, .long M_moreForce, .int M_runTurns, .long M_runFirst, .long M_runLast, .ref rM_was, .long M_peak, .long M_beside, .int M_besideAt])), (aNw, .inl (cNw, 139, .inr (.inl fNw)))]) hx hb hK hq 1 2 rfl rfl sm.toNatClampNeg (kk_cl s0) (kk_clt s0 sm8) (by decide) dX8_reads_162 rfl (fun H locs hq => ?_)
                  obtain ⟨fSg_210, efSg_210⟩ : ∃ z : Nat → Int32, z = upd sf sm.toNatClampNeg 1002 := ⟨_, rfl⟩
                  rw [← efSg_210] at hq
                  have eSf := efSg_210
                  refine lv_aload_n hx hb dX8_reads_163 rfl (lv_at hl 4 rfl) ?_
                  refine lv_dup hx hb dX8_reads_164 rfl ?_
                  refine kk_get (ci := 8) (v := .int sm) (C := RX8) (T := TX8) (N := 22) hx hb hts iX8 hown hK hq 2 rfl rfl 9 (by decide) lk3_ rfl dX8_reads_165 ?_
                  refine lv_iconst (v := 1) hx hb dX8_reads_168 (by decide) ?_
                  refine lv_iadd hx hb dX8_reads_169 ?_
                  refine lv_topi (fun signMany_211 esignMany_211 => ?_)
                  refine kk_put (ws' := [(aVs, .inl (cVs, 64, .inr (.inl vf))), (aSg, .inl (cSg, 128, .inl fSg_210)), (aM, .inr (8, [.ref aNw, .ref rM_kept, .ref rM_isKept, .ref rM_refused, .int at_208, .int fl, .ref aVs, .int vn, .ref aSg, .int signMany_211, .long M_tells, .int M_way, .int M_wish, .long M_moreTick, .long M_moreForce, .int M_runTurns, .long M_runFirst, .long M_runLast, .ref rM_was, .long M_peak, .long M_beside, .int M_besideAt])), (aNw, .inl (cNw, 139, .inr (.inl fNw)))]) (ci := 8) (v := .int signMany_211) (C := RX8) (T := TX8) (N := 22) hx hb hts iX8 tyX8_ok nmX8 hown hK hq 2 rfl rfl 9 (by decide) lk3_ rfl rfl rfl (Nat.le_of_ble_eq_true rfl) dX8_reads_170 rfl (fun H locs hq => ?_)
                  have riN := RI_hi2 (op2 := op) eSf ri hwa h60 eAt esignMany_211 (by decide) (by decide) (by rw [if_neg (by decide)]; omega)
                  refine lv_goto (tgt := 485) hx hb dX8_reads_173 (by decide) ?_
                  refine lv_goto (tgt := 26) hx hb dX8_reads_485 (by decide) ?_
                  have hst_212 : lpX8_reads_26 fNw (N26 + 1) op wa go at_ fl vn sm vf sf = lpX8_reads_26 fNw N26 op wa go at_208 fl vn signMany_211 vf fSg_210 := by
                    subst esignMany_211 efSg_210 eat_208 er_204 er_200 eu_17 er_18
                    exact (if_neg c_1).trans ((if_pos c_9).trans ((if_neg c_20).trans ((if_pos c_202).trans ((if_pos c_206).trans ((if_pos c_207).trans ((if_neg c_209).trans (rfl)))))))
                  exact ih26 op wa go at_208 fl vn signMany_211 vf fSg_210 _ _ _ ⟨(hrel26.trans (hst_212)), (by assumption), (by omega), (by first | assumption | exact ⟨by omega, Or.inr (Or.inr (by omega))⟩ | exact ⟨by omega, Or.inr (Or.inl (by assumption))⟩ | exact ⟨by omega, Or.inl rfl⟩), lv_sub hl [1, 2, 3, 4] rfl, (kk_sub hq [2, 3, 0, 1] rfl (by decide))⟩
                · skip
                  refine lv_sipush (v := 1001) hx hb dX8_reads_153 (by decide) ?_
                  refine lv_goto (tgt := 162) hx hb dX8_reads_156 (by decide) ?_
                  refine kk_iast (ws' := [(aVs, .inl (cVs, 64, .inr (.inl vf))), (aSg, .inl (cSg, 128, .inl (upd sf sm.toNatClampNeg 1001))), (aM, .inr (8, [.ref aNw, .ref rM_kept, .ref rM_isKept, .ref rM_refused, .int at_208, .int fl, .ref aVs, .int vn, .ref aSg, .int sm, .long M_tells, .int M_way, .int M_wish, .long M_moreTick, .long M_moreForce, .int M_runTurns, .long M_runFirst, .long M_runLast, .ref rM_was, .long M_peak, .long M_beside, .int M_besideAt])), (aNw, .inl (cNw, 139, .inr (.inl fNw)))]) hx hb hK hq 1 2 rfl rfl sm.toNatClampNeg (kk_cl s0) (kk_clt s0 sm8) (by decide) dX8_reads_162 rfl (fun H locs hq => ?_)
                  obtain ⟨fSg_213, efSg_213⟩ : ∃ z : Nat → Int32, z = upd sf sm.toNatClampNeg 1001 := ⟨_, rfl⟩
                  rw [← efSg_213] at hq
                  have eSf := efSg_213
                  refine lv_aload_n hx hb dX8_reads_163 rfl (lv_at hl 4 rfl) ?_
                  refine lv_dup hx hb dX8_reads_164 rfl ?_
                  refine kk_get (ci := 8) (v := .int sm) (C := RX8) (T := TX8) (N := 22) hx hb hts iX8 hown hK hq 2 rfl rfl 9 (by decide) lk3_ rfl dX8_reads_165 ?_
                  refine lv_iconst (v := 1) hx hb dX8_reads_168 (by decide) ?_
                  refine lv_iadd hx hb dX8_reads_169 ?_
                  refine lv_topi (fun signMany_214 esignMany_214 => ?_)
                  refine kk_put (ws' := [(aVs, .inl (cVs, 64, .inr (.inl vf))), (aSg, .inl (cSg, 128, .inl fSg_213)), (aM, .inr (8, [.ref aNw, .ref rM_kept, .ref rM_isKept, .ref rM_refused, .int at_208, .int fl, .ref aVs, .int vn, .ref aSg, .int signMany_214, .long M_tells, .int M_way, .int M_wish, .long M_moreTick, .long M_moreForce, .int M_runTurns, .long M_runFirst, .long M_runLast, .ref rM_was, .long M_peak, .long M_beside, .int M_besideAt])), (aNw, .inl (cNw, 139, .inr (.inl fNw)))]) (ci := 8) (v := .int signMany_214) (C := RX8) (T := TX8) (N := 22) hx hb hts iX8 tyX8_ok nmX8 hown hK hq 2 rfl rfl 9 (by decide) lk3_ rfl rfl rfl (Nat.le_of_ble_eq_true rfl) dX8_reads_170 rfl (fun H locs hq => ?_)
                  have riN := RI_hi2 (op2 := op) eSf ri hwa h60 eAt esignMany_214 (by decide) (by decide) (by rw [if_neg (by decide)]; omega)
                  refine lv_goto (tgt := 485) hx hb dX8_reads_173 (by decide) ?_
                  refine lv_goto (tgt := 26) hx hb dX8_reads_485 (by decide) ?_
                  have hst_215 : lpX8_reads_26 fNw (N26 + 1) op wa go at_ fl vn sm vf sf = lpX8_reads_26 fNw N26 op wa go at_208 fl vn signMany_214 vf fSg_213 := by
                    subst esignMany_214 efSg_213 eat_208 er_204 er_200 eu_17 er_18
                    exact (if_neg c_1).trans ((if_pos c_9).trans ((if_neg c_20).trans ((if_pos c_202).trans ((if_pos c_206).trans ((if_pos c_207).trans ((if_pos c_209).trans (rfl)))))))
                  exact ih26 op wa go at_208 fl vn signMany_214 vf fSg_213 _ _ _ ⟨(hrel26.trans (hst_215)), (by assumption), (by omega), (by first | assumption | exact ⟨by omega, Or.inr (Or.inr (by omega))⟩ | exact ⟨by omega, Or.inr (Or.inl (by assumption))⟩ | exact ⟨by omega, Or.inl rfl⟩), lv_sub hl [1, 2, 3, 4] rfl, (kk_sub hq [2, 3, 0, 1] rfl (by decide))⟩
              · skip
                refine lv_iload hx hb dX8_reads_121 (lv_at hl 0 rfl) ?_
                refine lv_bipush (v := 45) hx hb dX8_reads_123 (by decide) ?_
                refine lv_icmp_ne (tgt := 176) hx hb dX8_reads_125 (by decide) (fun c_216 => ?_) (fun c_216 => ?_)
                · skip
                  refine lv_iload hx hb dX8_reads_176 (lv_at hl 0 rfl) ?_
                  refine lv_bipush (v := 40) hx hb dX8_reads_178 (by decide) ?_
                  refine lv_icmp_ne (tgt := 227) hx hb dX8_reads_180 (by decide) (fun c_217 => ?_) (fun c_217 => ?_)
                  · skip
                    refine lv_aload_n hx hb dX8_reads_227 rfl (lv_at hl 4 rfl) ?_
                    refine lv_bipush (v := 10) hx hb dX8_reads_228 (by decide) ?_
                    refine lv_aload_n hx hb dX8_reads_230 rfl (lv_at hl 4 rfl) ?_
                    refine kk_get (ci := 8) (v := .int u_17) (C := RX8) (T := TX8) (N := 22) hx hb hts iX8 hown hK hq 2 rfl rfl 4 (by decide) lk0_ rfl dX8_reads_231 ?_
                    refine lv_imul hx hb dX8_reads_234 ?_
                    refine lv_iload hx hb dX8_reads_235 (lv_at hl 0 rfl) ?_
                    refine lv_bipush (v := 40) hx hb dX8_reads_237 (by decide) ?_
                    refine lv_icmp_ne (tgt := 246) hx hb dX8_reads_239 (by decide) (fun c_218 => ?_) (fun c_218 => ?_)
                    · skip
                      refine lv_iconst (v := 1) hx hb dX8_reads_246 (by decide) ?_
                      refine lv_iadd hx hb dX8_reads_247 ?_
                      refine lv_topi (fun fault_219 efault_219 => ?_)
                      refine kk_put (ws' := [(aVs, .inl (cVs, 64, .inr (.inl vf))), (aSg, .inl (cSg, 128, .inl sf)), (aM, .inr (8, [.ref aNw, .ref rM_kept, .ref rM_isKept, .ref rM_refused, .int u_17, .int fault_219, .ref aVs, .int vn, .ref aSg, .int sm, .long M_tells, .int M_way, .int M_wish, .long M_moreTick, .long M_moreForce, .int M_runTurns, .long M_runFirst, .long M_runLast, .ref rM_was, .long M_peak, .long M_beside, .int M_besideAt])), (aNw, .inl (cNw, 139, .inr (.inl fNw)))]) (ci := 8) (v := .int fault_219) (C := RX8) (T := TX8) (N := 22) hx hb hts iX8 tyX8_ok nmX8 hown hK hq 2 rfl rfl 5 (by decide) lk1_ rfl rfl rfl (Nat.le_of_ble_eq_true rfl) dX8_reads_248 rfl (fun H locs hq => ?_)
                      have hflt : fault_219 ≠ -1 := by first | exact fl_ne (k := 3) efault_219 u0 u1 (by decide) (by decide) | exact fl_ne (k := 1) efault_219 u0 u1 (by decide) (by decide)
                      refine lv_goto (tgt := 485) hx hb dX8_reads_251 (by decide) ?_
                      refine lv_goto (tgt := 26) hx hb dX8_reads_485 (by decide) ?_
                      have hst_220 : lpX8_reads_26 fNw (N26 + 1) op wa go at_ fl vn sm vf sf = lpX8_reads_26 fNw N26 op wa go u_17 fault_219 vn sm vf sf := by
                        subst efault_219 er_204 er_200 eu_17 er_18
                        exact (if_neg c_1).trans ((if_pos c_9).trans ((if_neg c_20).trans ((if_pos c_202).trans ((if_pos c_206).trans ((if_neg c_207).trans ((if_neg c_216).trans ((if_neg c_217).trans ((if_neg c_218).trans (rfl)))))))))
                      exact ih26 op wa go u_17 fault_219 vn sm vf sf _ _ _ ⟨(hrel26.trans (hst_220)), (by assumption), (by omega), (by first | assumption | exact ⟨by omega, Or.inr (Or.inr (by omega))⟩ | exact ⟨by omega, Or.inr (Or.inl (by assumption))⟩ | exact ⟨by omega, Or.inl rfl⟩), lv_sub hl [1, 2, 3, 4] rfl, (kk_sub hq [2, 3, 0, 1] rfl (by decide))⟩
                    · skip
                      refine lv_iconst (v := 3) hx hb dX8_reads_242 (by decide) ?_
                      refine lv_goto (tgt := 247) hx hb dX8_reads_243 (by decide) ?_
                      refine lv_iadd hx hb dX8_reads_247 ?_
                      refine lv_topi (fun fault_221 efault_221 => ?_)
                      refine kk_put (ws' := [(aVs, .inl (cVs, 64, .inr (.inl vf))), (aSg, .inl (cSg, 128, .inl sf)), (aM, .inr (8, [.ref aNw, .ref rM_kept, .ref rM_isKept, .ref rM_refused, .int u_17, .int fault_221, .ref aVs, .int vn, .ref aSg, .int sm, .long M_tells, .int M_way, .int M_wish, .long M_moreTick, .long M_moreForce, .int M_runTurns, .long M_runFirst, .long M_runLast, .ref rM_was, .long M_peak, .long M_beside, .int M_besideAt])), (aNw, .inl (cNw, 139, .inr (.inl fNw)))]) (ci := 8) (v := .int fault_221) (C := RX8) (T := TX8) (N := 22) hx hb hts iX8 tyX8_ok nmX8 hown hK hq 2 rfl rfl 5 (by decide) lk1_ rfl rfl rfl (Nat.le_of_ble_eq_true rfl) dX8_reads_248 rfl (fun H locs hq => ?_)
                      have hflt : fault_221 ≠ -1 := by first | exact fl_ne (k := 3) efault_221 u0 u1 (by decide) (by decide) | exact fl_ne (k := 1) efault_221 u0 u1 (by decide) (by decide)
                      refine lv_goto (tgt := 485) hx hb dX8_reads_251 (by decide) ?_
                      refine lv_goto (tgt := 26) hx hb dX8_reads_485 (by decide) ?_
                      have hst_222 : lpX8_reads_26 fNw (N26 + 1) op wa go at_ fl vn sm vf sf = lpX8_reads_26 fNw N26 op wa go u_17 fault_221 vn sm vf sf := by
                        subst efault_221 er_204 er_200 eu_17 er_18
                        exact (if_neg c_1).trans ((if_pos c_9).trans ((if_neg c_20).trans ((if_pos c_202).trans ((if_pos c_206).trans ((if_neg c_207).trans ((if_neg c_216).trans ((if_neg c_217).trans ((if_pos c_218).trans (rfl)))))))))
                      exact ih26 op wa go u_17 fault_221 vn sm vf sf _ _ _ ⟨(hrel26.trans (hst_222)), (by assumption), (by omega), (by first | assumption | exact ⟨by omega, Or.inr (Or.inr (by omega))⟩ | exact ⟨by omega, Or.inr (Or.inl (by assumption))⟩ | exact ⟨by omega, Or.inl rfl⟩), lv_sub hl [1, 2, 3, 4] rfl, (kk_sub hq [2, 3, 0, 1] rfl (by decide))⟩
                  · skip
                    have hc40 := c_217
                    refine lv_iload_n hx hb dX8_reads_183 rfl (lv_at hl 3 rfl) ?_
                    refine lv_bipush (v := 8) hx hb dX8_reads_184 (by decide) ?_
                    refine lv_icmp_ge (tgt := 227) hx hb dX8_reads_186 (by decide) (fun c_223 => ?_) (fun c_223 => ?_)
                    · skip
                      refine lv_aload_n hx hb dX8_reads_227 rfl (lv_at hl 4 rfl) ?_
                      refine lv_bipush (v := 10) hx hb dX8_reads_228 (by decide) ?_
                      refine lv_aload_n hx hb dX8_reads_230 rfl (lv_at hl 4 rfl) ?_
                      refine kk_get (ci := 8) (v := .int u_17) (C := RX8) (T := TX8) (N := 22) hx hb hts iX8 hown hK hq 2 rfl rfl 4 (by decide) lk0_ rfl dX8_reads_231 ?_
                      refine lv_imul hx hb dX8_reads_234 ?_
                      refine lv_iload hx hb dX8_reads_235 (lv_at hl 0 rfl) ?_
                      refine lv_bipush (v := 40) hx hb dX8_reads_237 (by decide) ?_
                      refine lv_icmp_ne (tgt := 246) hx hb dX8_reads_239 (by decide) (fun c_224 => ?_) (fun c_224 => ?_)
                      · skip
                        refine lv_iconst (v := 1) hx hb dX8_reads_246 (by decide) ?_
                        refine lv_iadd hx hb dX8_reads_247 ?_
                        refine lv_topi (fun fault_225 efault_225 => ?_)
                        refine kk_put (ws' := [(aVs, .inl (cVs, 64, .inr (.inl vf))), (aSg, .inl (cSg, 128, .inl sf)), (aM, .inr (8, [.ref aNw, .ref rM_kept, .ref rM_isKept, .ref rM_refused, .int u_17, .int fault_225, .ref aVs, .int vn, .ref aSg, .int sm, .long M_tells, .int M_way, .int M_wish, .long M_moreTick, .long M_moreForce, .int M_runTurns, .long M_runFirst, .long M_runLast, .ref rM_was, .long M_peak, .long M_beside, .int M_besideAt])), (aNw, .inl (cNw, 139, .inr (.inl fNw)))]) (ci := 8) (v := .int fault_225) (C := RX8) (T := TX8) (N := 22) hx hb hts iX8 tyX8_ok nmX8 hown hK hq 2 rfl rfl 5 (by decide) lk1_ rfl rfl rfl (Nat.le_of_ble_eq_true rfl) dX8_reads_248 rfl (fun H locs hq => ?_)
                        have hflt : fault_225 ≠ -1 := by first | exact fl_ne (k := 3) efault_225 u0 u1 (by decide) (by decide) | exact fl_ne (k := 1) efault_225 u0 u1 (by decide) (by decide)
                        refine lv_goto (tgt := 485) hx hb dX8_reads_251 (by decide) ?_
                        refine lv_goto (tgt := 26) hx hb dX8_reads_485 (by decide) ?_
                        have hst_226 : lpX8_reads_26 fNw (N26 + 1) op wa go at_ fl vn sm vf sf = lpX8_reads_26 fNw N26 op wa go u_17 fault_225 vn sm vf sf := by
                          subst efault_225 er_204 er_200 eu_17 er_18
                          exact (if_neg c_1).trans ((if_pos c_9).trans ((if_neg c_20).trans ((if_pos c_202).trans ((if_pos c_206).trans ((if_neg c_207).trans ((if_neg c_216).trans ((if_pos c_217).trans ((if_pos c_223).trans ((if_neg c_224).trans (rfl))))))))))
                        exact ih26 op wa go u_17 fault_225 vn sm vf sf _ _ _ ⟨(hrel26.trans (hst_226)), (by assumption), (by omega), (by first | assumption | exact ⟨by omega, Or.inr (Or.inr (by omega))⟩ | exact ⟨by omega, Or.inr (Or.inl (by assumption))⟩ | exact ⟨by omega, Or.inl rfl⟩), lv_sub hl [1, 2, 3, 4] rfl, (kk_sub hq [2, 3, 0, 1] rfl (by decide))⟩
                      · skip
                        refine lv_iconst (v := 3) hx hb dX8_reads_242 (by decide) ?_
                        refine lv_goto (tgt := 247) hx hb dX8_reads_243 (by decide) ?_
                        refine lv_iadd hx hb dX8_reads_247 ?_
                        refine lv_topi (fun fault_227 efault_227 => ?_)
                        refine kk_put (ws' := [(aVs, .inl (cVs, 64, .inr (.inl vf))), (aSg, .inl (cSg, 128, .inl sf)), (aM, .inr (8, [.ref aNw, .ref rM_kept, .ref rM_isKept, .ref rM_refused, .int u_17, .int fault_227, .ref aVs, .int vn, .ref aSg, .int sm, .long M_tells, .int M_way, .int M_wish, .long M_moreTick, .long M_moreForce, .int M_runTurns, .long M_runFirst, .long M_runLast, .ref rM_was, .long M_peak, .long M_beside, .int M_besideAt])), (aNw, .inl (cNw, 139, .inr (.inl fNw)))]) (ci := 8) (v := .int fault_227) (C := RX8) (T := TX8) (N := 22) hx hb hts iX8 tyX8_ok nmX8 hown hK hq 2 rfl rfl 5 (by decide) lk1_ rfl rfl rfl (Nat.le_of_ble_eq_true rfl) dX8_reads_248 rfl (fun H locs hq => ?_)
                        have hflt : fault_227 ≠ -1 := by first | exact fl_ne (k := 3) efault_227 u0 u1 (by decide) (by decide) | exact fl_ne (k := 1) efault_227 u0 u1 (by decide) (by decide)
                        refine lv_goto (tgt := 485) hx hb dX8_reads_251 (by decide) ?_
                        refine lv_goto (tgt := 26) hx hb dX8_reads_485 (by decide) ?_
                        have hst_228 : lpX8_reads_26 fNw (N26 + 1) op wa go at_ fl vn sm vf sf = lpX8_reads_26 fNw N26 op wa go u_17 fault_227 vn sm vf sf := by
                          subst efault_227 er_204 er_200 eu_17 er_18
                          exact (if_neg c_1).trans ((if_pos c_9).trans ((if_neg c_20).trans ((if_pos c_202).trans ((if_pos c_206).trans ((if_neg c_207).trans ((if_neg c_216).trans ((if_pos c_217).trans ((if_pos c_223).trans ((if_pos c_224).trans (rfl))))))))))
                        exact ih26 op wa go u_17 fault_227 vn sm vf sf _ _ _ ⟨(hrel26.trans (hst_228)), (by assumption), (by omega), (by first | assumption | exact ⟨by omega, Or.inr (Or.inr (by omega))⟩ | exact ⟨by omega, Or.inr (Or.inl (by assumption))⟩ | exact ⟨by omega, Or.inl rfl⟩), lv_sub hl [1, 2, 3, 4] rfl, (kk_sub hq [2, 3, 0, 1] rfl (by decide))⟩
                    · skip
                      have hop := kk_nle (k := 8) rfl c_223
                      have h60 := nx_lt nx (fun e => absurd (hc40.symm.trans e) (by decide)) l1
                      refine lv_aload_n hx hb dX8_reads_189 rfl (lv_at hl 4 rfl) ?_
                      refine lv_dup hx hb dX8_reads_190 rfl ?_
                      refine kk_get (ci := 8) (v := .int u_17) (C := RX8) (T := TX8) (N := 22) hx hb hts iX8 hown hK hq 2 rfl rfl 4 (by decide) lk0_ rfl dX8_reads_191 ?_
                      refine lv_iconst (v := 1) hx hb dX8_reads_194 (by decide) ?_
                      refine lv_iadd hx hb dX8_reads_195 ?_
                      refine lv_topi (fun at_229 eat_229 => ?_)
                      refine kk_put (ws' := [(aVs, .inl (cVs, 64, .inr (.inl vf))), (aSg, .inl (cSg, 128, .inl sf)), (aM, .inr (8, [.ref aNw, .ref rM_kept, .ref rM_isKept, .ref rM_refused, .int at_229, .int fl, .ref aVs, .int vn, .ref aSg, .int sm, .long M_tells, .int M_way, .int M_wish, .long M_moreTick, .long M_moreForce, .int M_runTurns, .long M_runFirst, .long M_runLast, .ref rM_was, .long M_peak, .long M_beside, .int M_besideAt])), (aNw, .inl (cNw, 139, .inr (.inl fNw)))]) (ci := 8) (v := .int at_229) (C := RX8) (T := TX8) (N := 22) hx hb hts iX8 tyX8_ok nmX8 hown hK hq 2 rfl rfl 4 (by decide) lk0_ rfl rfl rfl (Nat.le_of_ble_eq_true rfl) dX8_reads_196 rfl (fun H locs hq => ?_)
                      have eAt := eat_229
                      have iAt : at_229.toInt = _ := (congrArg Int32.toInt eat_229).trans (kk_inc (by omega))
                      have iA6 : at_229.toInt ≤ 60 := by omega
                      refine lv_iinc (v := op + 1) (lv' := [(1, .int (op + 1)), (4, .int r_18), (3, .int go), (2, .int wa), (0, .ref aM)]) hx hb dX8_reads_199 hl (k := 3) rfl rfl (by decide) rfl (fun ls hl => ?_)
                      refine lv_aload_n hx hb dX8_reads_202 rfl (lv_at hl 4 rfl) ?_
                      refine kk_get (ci := 8) (v := .ref aSg) (C := RX8) (T := TX8) (N := 22) hx hb hts iX8 hown hK hq 2 rfl rfl 8 (by decide) lk4_ rfl dX8_reads_203 ?_
                      refine lv_aload_n hx hb dX8_reads_206 rfl (lv_at hl 4 rfl) ?_
                      refine kk_get (ci := 8) (v := .int sm) (C := RX8) (T := TX8) (N := 22) hx hb hts iX8 hown hK hq 2 rfl rfl 9 (by decide) lk3_ rfl dX8_reads_207 ?_
                      refine lv_sipush (v := 1000) hx hb dX8_reads_210 (by decide) ?_
                      refine kk_iast (ws' := [(aVs, .inl (cVs, 64, .inr (.inl vf))), (aSg, .inl (cSg, 128, .inl (upd sf sm.toNatClampNeg 1000))), (aM, .inr (8, [.ref aNw, .ref rM_kept, .ref rM_isKept, .ref rM_refused, .int at_229, .int fl, .ref aVs, .int vn, .ref aSg, .int sm, .long M_tells, .int M_way, .int M_wish, .long M_moreTick, .long M_moreForce, .int M_runTurns, .long M_runFirst, .long M_runLast, .ref rM_was, .long M_peak, .long M_beside, .int M_besideAt])), (aNw, .inl (cNw, 139, .inr (.inl fNw)))]) hx hb hK hq 1 2 rfl rfl sm.toNatClampNeg (kk_cl s0) (kk_clt s0 sm8) (by decide) dX8_reads_213 rfl (fun H locs hq => ?_)
                      obtain ⟨fSg_230, efSg_230⟩ : ∃ z : Nat → Int32, z = upd sf sm.toNatClampNeg 1000 := ⟨_, rfl⟩
                      rw [← efSg_230] at hq
                      have eSf := efSg_230
                      refine lv_aload_n hx hb dX8_reads_214 rfl (lv_at hl 4 rfl) ?_
                      refine lv_dup hx hb dX8_reads_215 rfl ?_
                      refine kk_get (ci := 8) (v := .int sm) (C := RX8) (T := TX8) (N := 22) hx hb hts iX8 hown hK hq 2 rfl rfl 9 (by decide) lk3_ rfl dX8_reads_216 ?_
                      refine lv_iconst (v := 1) hx hb dX8_reads_219 (by decide) ?_
                      refine lv_iadd hx hb dX8_reads_220 ?_
                      refine lv_topi (fun signMany_231 esignMany_231 => ?_)
                      refine kk_put (ws' := [(aVs, .inl (cVs, 64, .inr (.inl vf))), (aSg, .inl (cSg, 128, .inl fSg_230)), (aM, .inr (8, [.ref aNw, .ref rM_kept, .ref rM_isKept, .ref rM_refused, .int at_229, .int fl, .ref aVs, .int vn, .ref aSg, .int signMany_231, .long M_tells, .int M_way, .int M_wish, .long M_moreTick, .long M_moreForce, .int M_runTurns, .long M_runFirst, .long M_runLast, .ref rM_was, .long M_peak, .long M_beside, .int M_besideAt])), (aNw, .inl (cNw, 139, .inr (.inl fNw)))]) (ci := 8) (v := .int signMany_231) (C := RX8) (T := TX8) (N := 22) hx hb hts iX8 tyX8_ok nmX8 hown hK hq 2 rfl rfl 9 (by decide) lk3_ rfl rfl rfl (Nat.le_of_ble_eq_true rfl) dX8_reads_221 rfl (fun H locs hq => ?_)
                      have riN := RI_hi2 (op2 := op + 1) eSf ri hwa h60 eAt esignMany_231 (by decide) (by decide) (by rw [if_pos rfl]; exact kk_inc (by omega))
                      refine lv_goto (tgt := 485) hx hb dX8_reads_224 (by decide) ?_
                      refine lv_goto (tgt := 26) hx hb dX8_reads_485 (by decide) ?_
                      have hst_232 : lpX8_reads_26 fNw (N26 + 1) op wa go at_ fl vn sm vf sf = lpX8_reads_26 fNw N26 (op + 1) wa go at_229 fl vn signMany_231 vf fSg_230 := by
                        subst esignMany_231 efSg_230 eat_229 er_204 er_200 eu_17 er_18
                        exact (if_neg c_1).trans ((if_pos c_9).trans ((if_neg c_20).trans ((if_pos c_202).trans ((if_pos c_206).trans ((if_neg c_207).trans ((if_neg c_216).trans ((if_pos c_217).trans ((if_neg c_223).trans (rfl)))))))))
                      exact ih26 (op + 1) wa go at_229 fl vn signMany_231 vf fSg_230 _ _ _ ⟨(hrel26.trans (hst_232)), (by assumption), (by omega), (by first | assumption | exact ⟨by omega, Or.inr (Or.inr (by omega))⟩ | exact ⟨by omega, Or.inr (Or.inl (by assumption))⟩ | exact ⟨by omega, Or.inl rfl⟩), lv_sub hl [2, 3, 0, 4] rfl, (kk_sub hq [2, 3, 0, 1] rfl (by decide))⟩
                · skip
                  have h60 := nx_lt nx (fun e => absurd (c_216.symm.trans e) (by decide)) l1
                  refine lv_aload_n hx hb dX8_reads_128 rfl (lv_at hl 4 rfl) ?_
                  refine lv_dup hx hb dX8_reads_129 rfl ?_
                  refine kk_get (ci := 8) (v := .int u_17) (C := RX8) (T := TX8) (N := 22) hx hb hts iX8 hown hK hq 2 rfl rfl 4 (by decide) lk0_ rfl dX8_reads_130 ?_
                  refine lv_iconst (v := 1) hx hb dX8_reads_133 (by decide) ?_
                  refine lv_iadd hx hb dX8_reads_134 ?_
                  refine lv_topi (fun at_233 eat_233 => ?_)
                  refine kk_put (ws' := [(aVs, .inl (cVs, 64, .inr (.inl vf))), (aSg, .inl (cSg, 128, .inl sf)), (aM, .inr (8, [.ref aNw, .ref rM_kept, .ref rM_isKept, .ref rM_refused, .int at_233, .int fl, .ref aVs, .int vn, .ref aSg, .int sm, .long M_tells, .int M_way, .int M_wish, .long M_moreTick, .long M_moreForce, .int M_runTurns, .long M_runFirst, .long M_runLast, .ref rM_was, .long M_peak, .long M_beside, .int M_besideAt])), (aNw, .inl (cNw, 139, .inr (.inl fNw)))]) (ci := 8) (v := .int at_233) (C := RX8) (T := TX8) (N := 22) hx hb hts iX8 tyX8_ok nmX8 hown hK hq 2 rfl rfl 4 (by decide) lk0_ rfl rfl rfl (Nat.le_of_ble_eq_true rfl) dX8_reads_135 rfl (fun H locs hq => ?_)
                  have eAt := eat_233
                  have iAt : at_233.toInt = _ := (congrArg Int32.toInt eat_233).trans (kk_inc (by omega))
                  have iA6 : at_233.toInt ≤ 60 := by omega
                  refine lv_aload_n hx hb dX8_reads_138 rfl (lv_at hl 4 rfl) ?_
                  refine kk_get (ci := 8) (v := .ref aSg) (C := RX8) (T := TX8) (N := 22) hx hb hts iX8 hown hK hq 2 rfl rfl 8 (by decide) lk4_ rfl dX8_reads_139 ?_
                  refine lv_aload_n hx hb dX8_reads_142 rfl (lv_at hl 4 rfl) ?_
                  refine kk_get (ci := 8) (v := .int sm) (C := RX8) (T := TX8) (N := 22) hx hb hts iX8 hown hK hq 2 rfl rfl 9 (by decide) lk3_ rfl dX8_reads_143 ?_
                  refine lv_iload hx hb dX8_reads_146 (lv_at hl 0 rfl) ?_
                  refine lv_bipush (v := 33) hx hb dX8_reads_148 (by decide) ?_
                  refine lv_icmp_ne (tgt := 159) hx hb dX8_reads_150 (by decide) (fun c_234 => ?_) (fun c_234 => ?_)
                  · skip
                    refine lv_sipush (v := 1002) hx hb dX8_reads_159 (by decide) ?_
                    refine kk_iast (ws' := [(aVs, .inl (cVs, 64, .inr (.inl vf))), (aSg, .inl (cSg, 128, .inl (upd sf sm.toNatClampNeg 1002))), (aM, .inr (8, [.ref aNw, .ref rM_kept, .ref rM_isKept, .ref rM_refused, .int at_233, .int fl, .ref aVs, .int vn, .ref aSg, .int sm, .long M_tells, .int M_way, .int M_wish, .long M_moreTick, .long M_moreForce, .int M_runTurns, .long M_runFirst, .long M_runLast, .ref rM_was, .long M_peak, .long M_beside, .int M_besideAt])), (aNw, .inl (cNw, 139, .inr (.inl fNw)))]) hx hb hK hq 1 2 rfl rfl sm.toNatClampNeg (kk_cl s0) (kk_clt s0 sm8) (by decide) dX8_reads_162 rfl (fun H locs hq => ?_)
                    obtain ⟨fSg_235, efSg_235⟩ : ∃ z : Nat → Int32, z = upd sf sm.toNatClampNeg 1002 := ⟨_, rfl⟩
                    rw [← efSg_235] at hq
                    have eSf := efSg_235
                    refine lv_aload_n hx hb dX8_reads_163 rfl (lv_at hl 4 rfl) ?_
                    refine lv_dup hx hb dX8_reads_164 rfl ?_
                    refine kk_get (ci := 8) (v := .int sm) (C := RX8) (T := TX8) (N := 22) hx hb hts iX8 hown hK hq 2 rfl rfl 9 (by decide) lk3_ rfl dX8_reads_165 ?_
                    refine lv_iconst (v := 1) hx hb dX8_reads_168 (by decide) ?_
                    refine lv_iadd hx hb dX8_reads_169 ?_
                    refine lv_topi (fun signMany_236 esignMany_236 => ?_)
                    refine kk_put (ws' := [(aVs, .inl (cVs, 64, .inr (.inl vf))), (aSg, .inl (cSg, 128, .inl fSg_235)), (aM, .inr (8, [.ref aNw, .ref rM_kept, .ref rM_isKept, .ref rM_refused, .int at_233, .int fl, .ref aVs, .int vn, .ref aSg, .int signMany_236, .long M_tells, .int M_way, .int M_wish, .long M_moreTick, .long M_moreForce, .int M_runTurns, .long M_runFirst, .long M_runLast, .ref rM_was, .long M_peak, .long M_beside, .int M_besideAt])), (aNw, .inl (cNw, 139, .inr (.inl fNw)))]) (ci := 8) (v := .int signMany_236) (C := RX8) (T := TX8) (N := 22) hx hb hts iX8 tyX8_ok nmX8 hown hK hq 2 rfl rfl 9 (by decide) lk3_ rfl rfl rfl (Nat.le_of_ble_eq_true rfl) dX8_reads_170 rfl (fun H locs hq => ?_)
                    have riN := RI_hi2 (op2 := op) eSf ri hwa h60 eAt esignMany_236 (by decide) (by decide) (by rw [if_neg (by decide)]; omega)
                    refine lv_goto (tgt := 485) hx hb dX8_reads_173 (by decide) ?_
                    refine lv_goto (tgt := 26) hx hb dX8_reads_485 (by decide) ?_
                    have hst_237 : lpX8_reads_26 fNw (N26 + 1) op wa go at_ fl vn sm vf sf = lpX8_reads_26 fNw N26 op wa go at_233 fl vn signMany_236 vf fSg_235 := by
                      subst esignMany_236 efSg_235 eat_233 er_204 er_200 eu_17 er_18
                      exact (if_neg c_1).trans ((if_pos c_9).trans ((if_neg c_20).trans ((if_pos c_202).trans ((if_pos c_206).trans ((if_neg c_207).trans ((if_pos c_216).trans ((if_neg c_234).trans (rfl))))))))
                    exact ih26 op wa go at_233 fl vn signMany_236 vf fSg_235 _ _ _ ⟨(hrel26.trans (hst_237)), (by assumption), (by omega), (by first | assumption | exact ⟨by omega, Or.inr (Or.inr (by omega))⟩ | exact ⟨by omega, Or.inr (Or.inl (by assumption))⟩ | exact ⟨by omega, Or.inl rfl⟩), lv_sub hl [1, 2, 3, 4] rfl, (kk_sub hq [2, 3, 0, 1] rfl (by decide))⟩
                  · skip
                    refine lv_sipush (v := 1001) hx hb dX8_reads_153 (by decide) ?_
                    refine lv_goto (tgt := 162) hx hb dX8_reads_156 (by decide) ?_
                    refine kk_iast (ws' := [(aVs, .inl (cVs, 64, .inr (.inl vf))), (aSg, .inl (cSg, 128, .inl (upd sf sm.toNatClampNeg 1001))), (aM, .inr (8, [.ref aNw, .ref rM_kept, .ref rM_isKept, .ref rM_refused, .int at_233, .int fl, .ref aVs, .int vn, .ref aSg, .int sm, .long M_tells, .int M_way, .int M_wish, .long M_moreTick, .long M_moreForce, .int M_runTurns, .long M_runFirst, .long M_runLast, .ref rM_was, .long M_peak, .long M_beside, .int M_besideAt])), (aNw, .inl (cNw, 139, .inr (.inl fNw)))]) hx hb hK hq 1 2 rfl rfl sm.toNatClampNeg (kk_cl s0) (kk_clt s0 sm8) (by decide) dX8_reads_162 rfl (fun H locs hq => ?_)
                    obtain ⟨fSg_238, efSg_238⟩ : ∃ z : Nat → Int32, z = upd sf sm.toNatClampNeg 1001 := ⟨_, rfl⟩
                    rw [← efSg_238] at hq
                    have eSf := efSg_238
                    refine lv_aload_n hx hb dX8_reads_163 rfl (lv_at hl 4 rfl) ?_
                    refine lv_dup hx hb dX8_reads_164 rfl ?_
                    refine kk_get (ci := 8) (v := .int sm) (C := RX8) (T := TX8) (N := 22) hx hb hts iX8 hown hK hq 2 rfl rfl 9 (by decide) lk3_ rfl dX8_reads_165 ?_
                    refine lv_iconst (v := 1) hx hb dX8_reads_168 (by decide) ?_
                    refine lv_iadd hx hb dX8_reads_169 ?_
                    refine lv_topi (fun signMany_239 esignMany_239 => ?_)
                    refine kk_put (ws' := [(aVs, .inl (cVs, 64, .inr (.inl vf))), (aSg, .inl (cSg, 128, .inl fSg_238)), (aM, .inr (8, [.ref aNw, .ref rM_kept, .ref rM_isKept, .ref rM_refused, .int at_233, .int fl, .ref aVs, .int vn, .ref aSg, .int signMany_239, .long M_tells, .int M_way, .int M_wish, .long M_moreTick, .long M_moreForce, .int M_runTurns, .long M_runFirst, .long M_runLast, .ref rM_was, .long M_peak, .long M_beside, .int M_besideAt])), (aNw, .inl (cNw, 139, .inr (.inl fNw)))]) (ci := 8) (v := .int signMany_239) (C := RX8) (T := TX8) (N := 22) hx hb hts iX8 tyX8_ok nmX8 hown hK hq 2 rfl rfl 9 (by decide) lk3_ rfl rfl rfl (Nat.le_of_ble_eq_true rfl) dX8_reads_170 rfl (fun H locs hq => ?_)
                    have riN := RI_hi2 (op2 := op) eSf ri hwa h60 eAt esignMany_239 (by decide) (by decide) (by rw [if_neg (by decide)]; omega)
                    refine lv_goto (tgt := 485) hx hb dX8_reads_173 (by decide) ?_
                    refine lv_goto (tgt := 26) hx hb dX8_reads_485 (by decide) ?_
                    have hst_240 : lpX8_reads_26 fNw (N26 + 1) op wa go at_ fl vn sm vf sf = lpX8_reads_26 fNw N26 op wa go at_233 fl vn signMany_239 vf fSg_238 := by
                      subst esignMany_239 efSg_238 eat_233 er_204 er_200 eu_17 er_18
                      exact (if_neg c_1).trans ((if_pos c_9).trans ((if_neg c_20).trans ((if_pos c_202).trans ((if_pos c_206).trans ((if_neg c_207).trans ((if_pos c_216).trans ((if_pos c_234).trans (rfl))))))))
                    exact ih26 op wa go at_233 fl vn signMany_239 vf fSg_238 _ _ _ ⟨(hrel26.trans (hst_240)), (by assumption), (by omega), (by first | assumption | exact ⟨by omega, Or.inr (Or.inr (by omega))⟩ | exact ⟨by omega, Or.inr (Or.inl (by assumption))⟩ | exact ⟨by omega, Or.inl rfl⟩), lv_sub hl [1, 2, 3, 4] rfl, (kk_sub hq [2, 3, 0, 1] rfl (by decide))⟩
            · skip
              have hcn := c_206
              rw [hnm] at hcn
              have h60 := nx_lt nx (fun e => hcn (by rw [e]; decide)) l1
              refine lv_aload_n hx hb dX8_reads_85 rfl (lv_at hl 4 rfl) ?_
              refine lv_dup hx hb dX8_reads_86 rfl ?_
              refine kk_get (ci := 8) (v := .int u_17) (C := RX8) (T := TX8) (N := 22) hx hb hts iX8 hown hK hq 2 rfl rfl 4 (by decide) lk0_ rfl dX8_reads_87 ?_
              refine lv_iconst (v := 1) hx hb dX8_reads_90 (by decide) ?_
              refine lv_iadd hx hb dX8_reads_91 ?_
              refine lv_topi (fun at_241 eat_241 => ?_)
              refine kk_put (ws' := [(aVs, .inl (cVs, 64, .inr (.inl vf))), (aSg, .inl (cSg, 128, .inl sf)), (aM, .inr (8, [.ref aNw, .ref rM_kept, .ref rM_isKept, .ref rM_refused, .int at_241, .int fl, .ref aVs, .int vn, .ref aSg, .int sm, .long M_tells, .int M_way, .int M_wish, .long M_moreTick, .long M_moreForce, .int M_runTurns, .long M_runFirst, .long M_runLast, .ref rM_was, .long M_peak, .long M_beside, .int M_besideAt])), (aNw, .inl (cNw, 139, .inr (.inl fNw)))]) (ci := 8) (v := .int at_241) (C := RX8) (T := TX8) (N := 22) hx hb hts iX8 tyX8_ok nmX8 hown hK hq 2 rfl rfl 4 (by decide) lk0_ rfl rfl rfl (Nat.le_of_ble_eq_true rfl) dX8_reads_92 rfl (fun H locs hq => ?_)
              have eAt := eat_241
              have iAt : at_241.toInt = _ := (congrArg Int32.toInt eat_241).trans (kk_inc (by omega))
              have iA6 : at_241.toInt ≤ 60 := by omega
              refine lv_aload_n hx hb dX8_reads_95 rfl (lv_at hl 4 rfl) ?_
              refine lv_aload_n hx hb dX8_reads_96 rfl (lv_at hl 4 rfl) ?_
              refine kk_get (ci := 8) (v := .ref aNw) (C := RX8) (T := TX8) (N := 22) hx hb hts iX8 hown hK hq 2 rfl rfl 0 (by decide) lk8_ rfl dX8_reads_97 ?_
              refine lv_iload hx hb dX8_reads_100 (lv_at hl 0 rfl) ?_
              refine kk_Si (As := [.int r_18]) (rest := [.ref aNw, .ref aM]) (wr := [(aVs, .inl (cVs, 64, .inr (.inl vf))), (aSg, .inl (cSg, 128, .inl sf)), (aM, .inr (8, [.ref aNw, .ref rM_kept, .ref rM_isKept, .ref rM_refused, .int at_241, .int fl, .ref aVs, .int vn, .ref aSg, .int sm, .long M_tells, .int M_way, .int M_wish, .long M_moreTick, .long M_moreForce, .int M_runTurns, .long M_runFirst, .long M_runLast, .ref rM_was, .long M_peak, .long M_beside, .int M_besideAt])), (aNw, .inl (cNw, 139, .inr (.inl fNw)))]) ⟨hx, hb, hml, hown, hts⟩ (c_X8_nameOf l G r_18) (kk_cwS 1 hts hsb wd_314 wd_315 wd_5 wd_316 rfl rfl hd_X8_nameOf ⟨Nat.le_of_ble_eq_true rfl, Nat.le_of_ble_eq_true rfl⟩) hA hK hq [] [0, 1, 2, 3] [] rfl rfl rfl (by decide) (by decide) (by decide) rfl hl.1 rfl (Nat.le_of_ble_eq_true rfl) dX8_reads_102 ⟨Nat.zero_le _, Nat.zero_le _⟩ (fun r_243 u_242 H locs h_244 hq => ?_)
              have er_243 := h_244
              have hq : kAt G A s [(aVs, .inl (cVs, 64, .inr (.inl vf))), (aSg, .inl (cSg, 128, .inl sf)), (aM, .inr (8, [.ref aNw, .ref rM_kept, .ref rM_isKept, .ref rM_refused, .int at_241, .int fl, .ref aVs, .int vn, .ref aSg, .int sm, .long M_tells, .int M_way, .int M_wish, .long M_moreTick, .long M_moreForce, .int M_runTurns, .long M_runFirst, .long M_runLast, .ref rM_was, .long M_peak, .long M_beside, .int M_besideAt])), (aNw, .inl (cNw, 139, .inr (.inl fNw)))] H locs := hq
              have nmb := (name_b _).resolve_left hcn
              rw [← er_243] at nmb
              have nm0 := nmb.1
              have nm1 : r_243.toInt < (139 : Nat) := by omega
              refine kk_lald hx hb hK hq 3 0 rfl rfl r_243.toNatClampNeg (kk_cl nm0) (kk_clt nm0 nm1) (by decide) dX8_reads_105 ?_
              refine kk_Vv (As := [.long (fNw r_243.toNatClampNeg)]) (rest := []) (wr := [(aNw, .inl (cNw, 139, .inr (.inl fNw)))]) ⟨hx, hb, hml, hown, hts⟩ (c_X8_stands l G aM aVs aSg aNw rM_kept rM_isKept rM_refused rM_was cVs cSg (fNw r_243.toNatClampNeg) at_241 fl vn sm M_tells M_way M_wish M_moreTick M_moreForce M_runTurns M_runFirst M_runLast M_peak M_beside M_besideAt vf sf s0 s1 v0 v1) (kk_cwV 1 hts hsb wd_310 wd_311 wd_312 wd_5 wd_313 rfl rfl hd_X8_stands ⟨Nat.le_of_ble_eq_true rfl, Nat.le_of_ble_eq_true rfl⟩) hA hK hq [2, 0, 1] [3] [1, 2] rfl rfl rfl (by decide) (by decide) (by decide) 0 8 rfl rfl rfl rfl hl.1 rfl (Nat.le_of_ble_eq_true rfl) dX8_reads_106 ⟨Nat.zero_le _, Nat.zero_le _⟩ (fun u_245 H locs h_247 hq => ?_)
              obtain ⟨eu_245, b1_u_245, b2_u_245, b3_u_245, b4_u_245, b5_u_245, b6_u_245⟩ := h_247
              have hq : kAt G A s [(aNw, .inl (cNw, 139, .inr (.inl fNw))), (aM, .inr (8, [.ref aNw, .ref rM_kept, .ref rM_isKept, .ref rM_refused, .int at_241, .int fl, .ref aVs, .int u_245.1, .ref aSg, .int u_245.2.1, .long M_tells, .int M_way, .int M_wish, .long M_moreTick, .long M_moreForce, .int M_runTurns, .long M_runFirst, .long M_runLast, .ref rM_was, .long M_peak, .long M_beside, .int M_besideAt])), (aVs, .inl (cVs, 64, .inr (.inl u_245.2.2))), (aSg, .inl (cSg, 128, .inl sf))] H locs := hq
              have riN := RI_stand ri hwa b1_u_245 b2_u_245 b3_u_245 b4_u_245 b5_u_245 b6_u_245 (by omega) iA6
              refine lv_iconst (v := 0) hx hb dX8_reads_109 (by decide) ?_
              refine lv_istore_n (lv' := [(2, .int 0), (4, .int r_18), (3, .int go), (1, .int op), (0, .ref aM)]) hx hb dX8_reads_110 rfl hl (by decide) rfl (fun ls hl => ?_)
              refine lv_goto (tgt := 485) hx hb dX8_reads_111 (by decide) ?_
              refine lv_goto (tgt := 26) hx hb dX8_reads_485 (by decide) ?_
              have hst_248 : lpX8_reads_26 fNw (N26 + 1) op wa go at_ fl vn sm vf sf = lpX8_reads_26 fNw N26 op 0 go at_241 fl u_245.1 u_245.2.1 u_245.2.2 sf := by
                subst eu_245 er_243 eat_241 er_204 er_200 eu_17 er_18
                exact (if_neg c_1).trans ((if_pos c_9).trans ((if_neg c_20).trans ((if_pos c_202).trans ((if_neg c_206).trans (rfl)))))
              exact ih26 op 0 go at_241 fl u_245.1 u_245.2.1 u_245.2.2 sf _ _ _ ⟨(hrel26.trans (hst_248)), (by assumption), (by omega), (by first | assumption | exact ⟨by omega, Or.inr (Or.inr (by omega))⟩ | exact ⟨by omega, Or.inr (Or.inl (by assumption))⟩ | exact ⟨by omega, Or.inl rfl⟩), lv_sub hl [2, 0, 3, 4] rfl, (kk_sub hq [1, 0, 2, 3] rfl (by decide))⟩
          · skip
            have hdg := c_202
            rw [hin] at hdg
            refine lv_aload_n hx hb dX8_reads_63 rfl (lv_at hl 4 rfl) ?_
            refine lv_aload_n hx hb dX8_reads_64 rfl (lv_at hl 4 rfl) ?_
            refine kk_Vl (As := []) (rest := [.ref aM]) (wr := [(aVs, .inl (cVs, 64, .inr (.inl vf))), (aSg, .inl (cSg, 128, .inl sf))]) ⟨hx, hb, hml, hown, hts⟩ (c_X8_digits l G aM aNw rM_kept rM_isKept rM_refused aVs aSg rM_was cNw u_17 fl vn sm M_tells M_way M_wish M_moreTick M_moreForce M_runTurns M_runFirst M_runLast M_peak M_beside M_besideAt fNw l0 l1 u0 u1) (kk_cwV 0 hts hsb wd_305 wd_306 wd_307 wd_5 wd_308 rfl rfl hd_X8_digits ⟨Nat.le_of_ble_eq_true rfl, Nat.le_of_ble_eq_true rfl⟩) hA hK hq [2, 3] [0, 1] [0] rfl rfl rfl (by decide) (by decide) (by decide) 0 8 rfl rfl rfl rfl hl.1 rfl (Nat.le_of_ble_eq_true rfl) dX8_reads_65 ⟨Nat.zero_le _, Nat.zero_le _⟩ (fun r_250 u_249 H locs h_251 hq => ?_)
            obtain ⟨er_250, eu_249, q0_u_249, q1_u_249, qm_u_249, gw_u_249⟩ := h_251
            have hq : kAt G A s [(aVs, .inl (cVs, 64, .inr (.inl vf))), (aSg, .inl (cSg, 128, .inl sf)), (aM, .inr (8, [.ref aNw, .ref rM_kept, .ref rM_isKept, .ref rM_refused, .int u_249.1, .int u_249.2, .ref aVs, .int vn, .ref aSg, .int sm, .long M_tells, .int M_way, .int M_wish, .long M_moreTick, .long M_moreForce, .int M_runTurns, .long M_runFirst, .long M_runLast, .ref rM_was, .long M_peak, .long M_beside, .int M_besideAt])), (aNw, .inl (cNw, 139, .inr (.inl fNw)))] H locs := hq
            have dg0 := q0_u_249
            have dgm := qm_u_249
            have dg1 := q1_u_249
            have dgw := rd_dig nx hdg gw_u_249
            have hNN : 1 ≤ N26 ∧ (go = 0 ∨ u_249.2 ≠ -1 ∨ 62 ≤ u_249.1.toInt + N26) := ⟨by omega, dgw.elim (fun h => Or.inr (Or.inr (by omega))) (fun h => Or.inr (Or.inl h))⟩
            refine kk_Vv (As := [.long r_250]) (rest := []) (wr := [(aNw, .inl (cNw, 139, .inr (.inl fNw)))]) ⟨hx, hb, hml, hown, hts⟩ (c_X8_stands l G aM aVs aSg aNw rM_kept rM_isKept rM_refused rM_was cVs cSg r_250 u_249.1 u_249.2 vn sm M_tells M_way M_wish M_moreTick M_moreForce M_runTurns M_runFirst M_runLast M_peak M_beside M_besideAt vf sf s0 s1 v0 v1) (kk_cwV 1 hts hsb wd_310 wd_311 wd_312 wd_5 wd_313 rfl rfl hd_X8_stands ⟨Nat.le_of_ble_eq_true rfl, Nat.le_of_ble_eq_true rfl⟩) hA hK hq [2, 0, 1] [3] [1, 2] rfl rfl rfl (by decide) (by decide) (by decide) 0 8 rfl rfl rfl rfl hl.1 rfl (Nat.le_of_ble_eq_true rfl) dX8_reads_68 ⟨Nat.zero_le _, Nat.zero_le _⟩ (fun u_252 H locs h_254 hq => ?_)
            obtain ⟨eu_252, b1_u_252, b2_u_252, b3_u_252, b4_u_252, b5_u_252, b6_u_252⟩ := h_254
            have hq : kAt G A s [(aNw, .inl (cNw, 139, .inr (.inl fNw))), (aM, .inr (8, [.ref aNw, .ref rM_kept, .ref rM_isKept, .ref rM_refused, .int u_249.1, .int u_249.2, .ref aVs, .int u_252.1, .ref aSg, .int u_252.2.1, .long M_tells, .int M_way, .int M_wish, .long M_moreTick, .long M_moreForce, .int M_runTurns, .long M_runFirst, .long M_runLast, .ref rM_was, .long M_peak, .long M_beside, .int M_besideAt])), (aVs, .inl (cVs, 64, .inr (.inl u_252.2.2))), (aSg, .inl (cSg, 128, .inl sf))] H locs := hq
            have riN := RI_stand ri hwa b1_u_252 b2_u_252 b3_u_252 b4_u_252 b5_u_252 b6_u_252 dgm dg1
            refine lv_iconst (v := 0) hx hb dX8_reads_71 (by decide) ?_
            refine lv_istore_n (lv' := [(2, .int 0), (4, .int r_18), (3, .int go), (1, .int op), (0, .ref aM)]) hx hb dX8_reads_72 rfl hl (by decide) rfl (fun ls hl => ?_)
            refine lv_goto (tgt := 485) hx hb dX8_reads_73 (by decide) ?_
            refine lv_goto (tgt := 26) hx hb dX8_reads_485 (by decide) ?_
            have hst_255 : lpX8_reads_26 fNw (N26 + 1) op wa go at_ fl vn sm vf sf = lpX8_reads_26 fNw N26 op 0 go u_249.1 u_249.2 u_252.1 u_252.2.1 u_252.2.2 sf := by
              subst eu_252 eu_249 er_250 er_200 eu_17 er_18
              exact (if_neg c_1).trans ((if_pos c_9).trans ((if_neg c_20).trans ((if_neg c_202).trans (rfl))))
            exact ih26 op 0 go u_249.1 u_249.2 u_252.1 u_252.2.1 u_252.2.2 sf _ _ _ ⟨(hrel26.trans (hst_255)), (by assumption), (by omega), (by first | assumption | exact ⟨by omega, Or.inr (Or.inr (by omega))⟩ | exact ⟨by omega, Or.inr (Or.inl (by assumption))⟩ | exact ⟨by omega, Or.inl rfl⟩), lv_sub hl [2, 0, 3, 4] rfl, (kk_sub hq [1, 0, 2, 3] rfl (by decide))⟩
