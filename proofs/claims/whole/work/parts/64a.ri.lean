/-! the stacks of the reading, whole: what holds at the head of its loop -/
def SG_ (sf : Nat → Int32) (a : Nat) : Prop := (∀ j, j < a → (sf j < 1000 → 1 ≤ fX8_rank (sf j)) ∧ (¬ sf j < 1000 → sf j = 1000 ∨ sf j = 1001 ∨ sf j = 1002)) ∧ ∀ j, j + 1 < a → 1000 < sf j → ¬ sf (j + 1) < 1000
theorem SG_mono {sf : Nat → Int32} {a b : Nat} (h : SG_ sf a) (hb : b ≤ a) : SG_ sf b := ⟨fun j hj => h.1 j (by omega), fun j hj => h.2 j (by omega)⟩
theorem bns_ (sf : Nat → Int32) (a : Nat) : bn_ sf (a + 1) = bn_ sf a + (if sf a < 1000 then 1 else 0) := rfl
theorem ops_ (sf : Nat → Int32) (a : Nat) : op_ sf (a + 1) = op_ sf a + (if sf a = 1000 then 1 else 0) := rfl
theorem bn_le (sf : Nat → Int32) : ∀ a, bn_ sf a ≤ a
  | 0 => Nat.le_refl 0
  | a + 1 => by
    have := bn_le sf a
    show bn_ sf a + _ ≤ _
    split <;> omega
theorem bn_upd {sf : Nat → Int32} {k : Nat} {x : Int32} : ∀ {a : Nat}, a ≤ k → bn_ (upd sf k x) a = bn_ sf a
  | 0, _ => rfl
  | a + 1, h => by
    show bn_ _ a + _ = bn_ _ a + _
    rw [bn_upd (a := a) (by omega), pk_un (by omega)]
theorem op_upd {sf : Nat → Int32} {k : Nat} {x : Int32} : ∀ {a : Nat}, a ≤ k → op_ (upd sf k x) a = op_ sf a
  | 0, _ => rfl
  | a + 1, h => by
    show op_ _ a + _ = op_ _ a + _
    rw [op_upd (a := a) (by omega), pk_un (by omega)]
theorem bn_push {sf : Nat → Int32} {a : Nat} {x : Int32} : bn_ (upd sf a x) (a + 1) = bn_ sf a + (if x < 1000 then 1 else 0) := by
  show bn_ _ a + _ = _
  rw [bn_upd (Nat.le_refl a), pk_us]
theorem op_push {sf : Nat → Int32} {a : Nat} {x : Int32} : op_ (upd sf a x) (a + 1) = op_ sf a + (if x = 1000 then 1 else 0) := by
  show op_ _ a + _ = _
  rw [op_upd (Nat.le_refl a), pk_us]
theorem SG_push {sf : Nat → Int32} {a : Nat} {x : Int32} (h : SG_ sf a) (h1 : x < 1000 → 1 ≤ fX8_rank x) (h2 : ¬ x < 1000 → x = 1000 ∨ x = 1001 ∨ x = 1002) (h3 : x < 1000 → ∀ j, j + 1 = a → ¬ 1000 < sf j) : SG_ (upd sf a x) (a + 1) := by
  refine ⟨fun j hj => ?_, fun j hj hgt => ?_⟩
  · by_cases e : j = a
    · subst e; rw [pk_us]; exact ⟨h1, h2⟩
    · rw [pk_un e]; exact h.1 j (by omega)
  · rw [pk_un (by omega)] at hgt
    by_cases e : j + 1 = a
    · subst e
      rw [pk_us]
      exact fun hx => h3 hx j rfl hgt
    · rw [pk_un e]; exact h.2 j (by omega) hgt
def TP_ (sf : Nat → Int32) (sm : Int32) : Prop := sm.toInt = 0 ∨ sf (sm - 1).toNatClampNeg ≤ 1000
def RI_ (at_ sm vn op wa : Int32) (sf : Nat → Int32) : Prop := 0 ≤ sm.toInt ∧ sm.toInt ≤ at_.toInt ∧ at_.toInt ≤ 60 ∧ vn.toInt = (bn_ sf sm.toNatClampNeg : Int) + (if wa = 0 then 1 else 0) ∧ op.toInt = (op_ sf sm.toNatClampNeg : Int) ∧ (wa = 0 → TP_ sf sm) ∧ SG_ sf sm.toNatClampNeg
theorem cl_succ {x : Int32} (h0 : 0 ≤ x.toInt) (h : x.toInt < 1000) : (x + 1).toNatClampNeg = x.toNatClampNeg + 1 := by
  have h1 := kk_inc (x := x) (by omega)
  have h2 := kk_clN (x := x) h0
  have h3 := kk_clN (x := x + 1) (by omega)
  omega
theorem RI_v {at_ sm vn op wa : Int32} {sf : Nat → Int32} (h : RI_ at_ sm vn op wa sf) : 0 ≤ vn.toInt ∧ vn.toInt ≤ 61 ∧ sm.toInt ≤ 60 ∧ (wa ≠ 0 → vn.toInt ≤ 60) ∧ (wa = 0 → 1 ≤ vn.toInt) := by
  obtain ⟨h1, h2, h3, h4, -⟩ := h
  have h5 := bn_le sf sm.toNatClampNeg
  have h6 := kk_clN h1
  refine ⟨?_, ?_, by omega, fun e => ?_, fun e => ?_⟩
  · rw [h4]; split <;> omega
  · rw [h4]; split <;> omega
  · rw [h4, if_neg e]; omega
  · rw [h4, if_pos e]; omega
theorem RI_stand {at_ at2 sm sm2 vn vn2 op wa : Int32} {sf : Nat → Int32} (h : RI_ at_ sm vn op wa sf) (hw : ¬ wa = 0) (h1 : vn2.toInt = vn.toInt + 1) (h2 : 0 ≤ sm2.toInt) (h3 : sm2.toInt ≤ sm.toInt) (h4 : bn_ sf sm2.toNatClampNeg = bn_ sf sm.toNatClampNeg) (h5 : op_ sf sm2.toNatClampNeg = op_ sf sm.toNatClampNeg) (h6 : TP_ sf sm2) (ha : at_.toInt ≤ at2.toInt) (hb : at2.toInt ≤ 60) : RI_ at2 sm2 vn2 op 0 sf := by
  obtain ⟨r1, r2, r3, r4, r5, r6, r7⟩ := h
  rw [if_neg hw] at r4
  have k1 := kk_clN r1
  have k2 := kk_clN h2
  exact ⟨h2, by omega, hb, by rw [h4, if_pos rfl]; omega, by rw [h5]; exact r5, fun _ => h6, SG_mono r7 (by omega)⟩
theorem RI_hi {at_ at2 sm sm2 vn op op2 wa : Int32} {x : Int32} {sf : Nat → Int32} (h : RI_ at_ sm vn op wa sf) (hw : ¬ wa = 0) (hlt : at_.toInt < 60) (ea : at2 = at_ + 1) (es : sm2 = sm + 1) (hx : ¬ x < 1000) (hx2 : x = 1000 ∨ x = 1001 ∨ x = 1002) (ho : op2.toInt = op.toInt + (if x = 1000 then 1 else 0)) : RI_ at2 sm2 vn op2 wa (upd sf sm.toNatClampNeg x) := by
  obtain ⟨r1, r2, r3, r4, r5, r6, r7⟩ := h
  subst ea es
  have k1 := kk_inc (x := at_) (by omega)
  have k2 := kk_inc (x := sm) (by omega)
  have k3 := cl_succ (x := sm) r1 (by omega)
  refine ⟨by omega, by omega, by omega, ?_, ?_, fun e => absurd e hw, ?_⟩
  · rw [k3, bn_push, if_neg hx]; exact r4
  · rw [k3, op_push, ho, r5]; split <;> omega
  · rw [k3]; exact SG_push r7 (fun e => absurd e hx) (fun _ => hx2) (fun e => absurd e hx)
theorem RI_wd {at_ sm sm2 vn vn2 op : Int32} {sf : Nat → Int32} (h : RI_ at_ sm vn op 0 sf) (d0 : 0 ≤ sm2.toInt) (d1 : sm2.toInt ≤ sm.toInt) (d2 : vn2.toInt = (bn_ sf sm2.toNatClampNeg : Int) + 1) (d4 : op_ sf sm2.toNatClampNeg = op_ sf sm.toNatClampNeg) (d5 : sm2.toInt < sm.toInt → sf sm2.toNatClampNeg < 1000) : RI_ at_ sm2 vn2 op 0 sf := by
  obtain ⟨r1, r2, r3, r4, r5, r6, r7⟩ := h
  have k1 := kk_clN r1
  have k2 := kk_clN d0
  refine ⟨d0, by omega, r3, by rw [if_pos rfl]; exact d2, by rw [d4]; exact r5, fun _ => ?_, SG_mono r7 (by omega)⟩
  by_cases e : sm2.toInt = sm.toInt
  · have : sm2 = sm := Int32.toInt_inj.mp e
    rw [this]; exact r6 rfl
  · by_cases e0 : sm2.toInt = 0
    · exact Or.inl e0
    · right
      have hlt := d5 (by omega)
      have hp := cl_pred (x := sm2) (by omega)
      by_cases hg : 1000 < sf (sm2 - 1).toNatClampNeg
      · have := r7.2 (sm2 - 1).toNatClampNeg (by omega) hg
        rw [← hp] at this
        exact absurd hlt this
      · exact Int32.not_lt.mp hg
theorem RI_bin {at_ at2 sm sm2 vn op : Int32} {x : Int32} {sf : Nat → Int32} (h : RI_ at_ sm vn op 0 sf) (hlt : at_.toInt < 60) (ea : at2 = at_ + 1) (es : sm2 = sm + 1) (hx : x < 1000) (hr : 1 ≤ fX8_rank x) : RI_ at2 sm2 vn op 1 (upd sf sm.toNatClampNeg x) := by
  obtain ⟨r1, r2, r3, r4, r5, r6, r7⟩ := h
  subst ea es
  have k1 := kk_inc (x := at_) (by omega)
  have k2 := kk_inc (x := sm) (by omega)
  have k3 := cl_succ (x := sm) r1 (by omega)
  rw [if_pos rfl] at r4
  refine ⟨by omega, by omega, by omega, ?_, ?_, fun e => absurd e (by decide), ?_⟩
  · rw [k3, bn_push, if_pos hx, if_neg (by decide)]; omega
  · rw [k3, op_push, if_neg (fun e => by rw [e] at hx; exact absurd hx (by decide)), r5]; omega
  · rw [k3]
    refine SG_push r7 (fun _ => hr) (fun e => absurd hx e) (fun _ j hj => ?_)
    rcases r6 rfl with e | e
    · have := kk_clN r1; omega
    · have hp : 0 < sm.toInt := by have := kk_clN r1; omega
      have hq := cl_pred (x := sm) hp
      have : j = (sm - 1).toNatClampNeg := by omega
      rw [this]
      exact Int32.not_lt.mpr e
/-- behind workDown(1) with something open, the top is an open bracket -/
theorem RI_top {at_ sm vn op : Int32} {sf : Nat → Int32} (h : RI_ at_ sm vn op 0 sf) (ho : 0 < op.toInt) (d3 : sm.toInt = 0 ∨ ¬ sf (sm - 1).toNatClampNeg < 1000 ∨ fX8_rank (sf (sm - 1).toNatClampNeg) < 1) : 0 < sm.toInt ∧ sf (sm - 1).toNatClampNeg = 1000 := by
  obtain ⟨r1, r2, r3, r4, r5, r6, r7⟩ := h
  have hp : 0 < sm.toInt := by
    by_cases e : sm.toInt = 0
    · have k := kk_clN r1
      have : sm.toNatClampNeg = 0 := by omega
      rw [this] at r5
      have : op_ sf 0 = 0 := rfl
      omega
    · omega
  have hq := cl_pred (x := sm) hp
  have hs := r7.1 (sm - 1).toNatClampNeg (by omega)
  have hn : ¬ sf (sm - 1).toNatClampNeg < 1000 := by
    rcases d3 with e | e | e
    · omega
    · exact e
    · exact fun hx => absurd (hs.1 hx) (Int32.not_le.mpr e)
  have ht : sf (sm - 1).toNatClampNeg ≤ 1000 := (r6 rfl).resolve_left (by omega)
  refine ⟨hp, ?_⟩
  rcases hs.2 hn with e | e | e
  · exact e
  · rw [e] at ht; exact absurd ht (by decide)
  · rw [e] at ht; exact absurd ht (by decide)
theorem cl_last {a b : Int} {m n : Nat} (k7 : a = b - 1) (r5 : b = (m : Int)) (hp : m = n + 1) : a = (n : Int) := by omega
theorem RI_close {at_ at2 sm sm2 sm3 vn vn2 vn3 op op2 : Int32} {sf : Nat → Int32} (h : RI_ at_ sm vn op 0 sf) (ho : 0 < op.toInt) (htop : 0 < sm.toInt ∧ sf (sm - 1).toNatClampNeg = 1000) (hlt : at_.toInt < 60) (ea : at2 = at_ + 1) (es : sm2 = sm - 1) (ev : vn2 = vn - 1) (eo : op2 = op + (-1)) (h1 : vn3.toInt = vn2.toInt + 1) (h2 : 0 ≤ sm3.toInt) (h3 : sm3.toInt ≤ sm2.toInt) (h4 : bn_ sf sm3.toNatClampNeg = bn_ sf sm2.toNatClampNeg) (h5 : op_ sf sm3.toNatClampNeg = op_ sf sm2.toNatClampNeg) (h6 : TP_ sf sm3) : RI_ at2 sm3 vn3 op2 0 sf := by
  have hv := RI_v h
  obtain ⟨r1, r2, r3, r4, r5, r6, r7⟩ := h
  subst ea es ev eo
  rw [if_pos rfl] at r4
  have k1 := kk_inc (x := at_) (by omega)
  have k2 := kk_dec (x := sm) (by omega)
  have k3 := cl_pred (x := sm) htop.1
  have k4 := kk_clN h2
  have k5 := kk_clN r1
  have k6 := kk_dec (x := vn) (by omega)
  have k7 := kk_dec2 (x := op) (by omega)
  have hb : bn_ sf sm.toNatClampNeg = bn_ sf (sm - 1).toNatClampNeg := by
    rw [k3, bns_, htop.2, if_neg (by decide), Nat.add_zero]
  have hp : op_ sf sm.toNatClampNeg = op_ sf (sm - 1).toNatClampNeg + 1 := by
    rw [k3, ops_, htop.2, if_pos rfl]
  refine ⟨h2, by omega, by omega, ?_, ?_, fun _ => h6, SG_mono r7 (by omega)⟩
  · rw [h4, if_pos rfl, ← hb]; omega
  · rw [h5]; exact cl_last k7 r5 hp

