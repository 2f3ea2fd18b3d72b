/-! FLOATS: bounds by the exact value in units of the least number -/
def zz (x : UInt32) : Int := FP.Core.zval FP.Core.b32 (FP.Core.val32 x)
def nn (x : UInt32) : Prop := FP.Core.val32 x ≠ .nan
/-- not a NaN, and from lo to hi (in units of 2 to the -149) -/
def fb (lo hi : Int) (x : UInt32) : Prop := nn x ∧ lo ≤ zz x ∧ zz x ≤ hi
theorem nn_vf {x : UInt32} (h : nn x) : vf_n32 x := by
  have h1 := (FP.Core.ne_nan32 x).mp h
  unfold vf_n32
  rw [UInt32.le_iff_toNat_le, UInt32.toNat_and]
  have e : (2147483647 : UInt32).toNat = 2 ^ 31 - 1 := by decide
  rw [e, Nat.and_two_pow_sub_one_eq_mod]
  exact h1
theorem fb_fin {lo hi : Int} {x : UInt32} (h : fb lo hi x) (h1 : -(2 ^ 200) ≤ lo) (h2 : hi ≤ 2 ^ 200) : FP.Core.FFin x := by
  obtain ⟨hn, ha, hb⟩ := h
  unfold zz at ha hb
  unfold nn at hn
  cases hv : FP.Core.val32 x with
  | nan => exact absurd hv hn
  | fin s c q => exact ⟨s, c, q, hv⟩
  | inf s =>
    rw [hv] at ha hb
    have e : FP.Core.zmag FP.Core.b32 (.inf s) = 2 ^ 277 := by
      show FP.Core.b32.tails * 2 ^ (FP.Core.b32.exps - 2) = _
      decide +kernel
    unfold FP.Core.zval at ha hb
    rw [e] at ha hb
    cases s
    · simp only [FP.Core.signed, FP.Core.sgn, Bool.false_eq_true, if_false] at hb
      exact absurd (Int.le_trans hb h2) (by decide +kernel)
    · simp only [FP.Core.signed, FP.Core.sgn, if_true] at ha
      exact absurd (Int.le_trans h1 ha) (by decide +kernel)
theorem nn_of {x : UInt32} (h : FP.Core.fIsNaN x = false) : nn x := (FP.Core.notNaN_iff32 x).mp h
theorem fb_add {x y V1 V2 : UInt32} (hx : FP.Core.FFin x) (hy : FP.Core.FFin y) (n1 : nn V1) (n2 : nn V2) (h1 : zz V1 ≤ zz x + zz y) (h2 : zz x + zz y ≤ zz V2) : fb (zz V1) (zz V2) (FP.fadd x y) := by
  refine ⟨nn_of (FP.Core.fadd_out hx.notNaN hy), ?_, ?_⟩
  · unfold zz
    rw [show FP.Core.val32 (FP.fadd x y) = _ from FP.Core.val32_fadd x y]
    exact FP.Core.sum_ge FP.Core.good_b32 hx hy (FP.Core.val32_fits x) (FP.Core.val32_fits y) (FP.Core.val32_fits V1) n1 h1
  · unfold zz
    rw [show FP.Core.val32 (FP.fadd x y) = _ from FP.Core.val32_fadd x y]
    exact FP.Core.sum_le FP.Core.good_b32 hx hy (FP.Core.val32_fits x) (FP.Core.val32_fits y) (FP.Core.val32_fits V2) n2 h2
theorem fb_sub {x y V1 V2 : UInt32} (hx : FP.Core.FFin x) (hy : FP.Core.FFin y) (n1 : nn V1) (n2 : nn V2) (h1 : zz V1 ≤ zz x - zz y) (h2 : zz x - zz y ≤ zz V2) : fb (zz V1) (zz V2) (FP.fsub x y) := by
  have hy' : ∃ s c q, FP.Core.negate (FP.Core.val32 y) = .fin s c q := by
    obtain ⟨s, c, q, h⟩ := hy
    exact ⟨!s, c, q, by rw [h]; rfl⟩
  refine ⟨nn_of (FP.Core.fsub_out hx.notNaN hy), ?_, ?_⟩
  · unfold zz
    rw [show FP.Core.val32 (FP.fsub x y) = _ from FP.Core.val32_fsub x y]
    refine FP.Core.sum_ge FP.Core.good_b32 hx hy' (FP.Core.val32_fits x) (FP.Core.negate_fits (FP.Core.val32_fits y)) (FP.Core.val32_fits V1) n1 ?_
    rw [FP.Core.zval_negate]
    exact h1
  · unfold zz
    rw [show FP.Core.val32 (FP.fsub x y) = _ from FP.Core.val32_fsub x y]
    refine FP.Core.sum_le FP.Core.good_b32 hx hy' (FP.Core.val32_fits x) (FP.Core.negate_fits (FP.Core.val32_fits y)) (FP.Core.val32_fits V2) n2 ?_
    rw [FP.Core.zval_negate]
    exact h2
theorem sg_mul (s t : Bool) (a b : Nat) : FP.Core.signed (s != t) (a * b) = FP.Core.signed s a * FP.Core.signed t b := by
  cases s <;> cases t <;> simp [FP.Core.signed, Int.neg_mul, Int.mul_neg]
theorem fb_mul {x y V1 V2 : UInt32} (hx : FP.Core.FFin x) (hy : FP.Core.FFin y) (n1 : nn V1) (n2 : nn V2) (h1 : zz V1 * 2 ^ 149 ≤ zz x * zz y) (h2 : zz x * zz y ≤ zz V2 * 2 ^ 149) : fb (zz V1) (zz V2) (FP.fmul x y) := by
  have hn := nn_of (FP.Core.fmul_out hx hy)
  have fx := FP.Core.val32_fits x
  have fy := FP.Core.val32_fits y
  obtain ⟨s, c, q, ex⟩ := hx
  obtain ⟨t, d, r, ey⟩ := hy
  have ev : FP.Core.val32 (FP.fmul x y) = FP.Core.round FP.Core.b32 (FP.Core.exactProduct (FP.Core.val32 x) (FP.Core.val32 y)) := FP.Core.val32_fmul x y
  have e149 : ((2 ^ (FP.Core.b32.qmin - 2 * FP.Core.b32.qmin).toNat : Nat) : Int) = 2 ^ 149 := by decide +kernel
  rw [ex] at fx
  rw [ey] at fy
  obtain ⟨p1, p2, p3⟩ := FP.Core.product_units fx fy
  have key : FP.Core.signed (s != t) (FP.Core.inUnits (c * d) (q + r) (2 * FP.Core.b32.qmin)) = zz x * zz y := by
    rw [p3, sg_mul]
    unfold zz
    rw [ex, ey]
    rfl
  refine ⟨hn, ?_, ?_⟩
  · show zz V1 ≤ FP.Core.zval FP.Core.b32 (FP.Core.val32 (FP.fmul x y))
    rw [ev, ex, ey, p1]
    refine FP.Core.zval_round_ge FP.Core.good_b32 (FP.Core.val32_fits V1) n1 (e0 := 2 * FP.Core.b32.qmin) (by decide +kernel) p2 ?_
    rw [e149, key]
    exact h1
  · show FP.Core.zval FP.Core.b32 (FP.Core.val32 (FP.fmul x y)) ≤ zz V2
    rw [ev, ex, ey, p1]
    refine FP.Core.zval_round_le FP.Core.good_b32 (FP.Core.val32_fits V2) n2 (e0 := 2 * FP.Core.b32.qmin) (by decide +kernel) p2 ?_
    rw [e149, key]
    exact h2
theorem fb_cmp {x y : UInt32} (hx : nn x) (hy : nn y) : FP.fcmp x y = some (compare (zz x) (zz y)) := FP.Core.fcmp_zval hx hy
theorem fb_f2i {x : UInt32} {n : Nat} (h : fb 0 ((n : Int) * 2 ^ 149) x) (hn : n < 1000) : ∃ k : Nat, k ≤ n ∧ FP.f2i x = nI k := by
  obtain ⟨h0, h1, h2⟩ := h
  have hv := FP.Core.f2i_val h0
  have e1 : FP.Core.one32 = 2 ^ 149 := rfl
  unfold zz FP.Core.zval at h1 h2
  have hz : FP.Core.signed (FP.Core.sgn (FP.Core.val32 x)) (FP.Core.zmag FP.Core.b32 (FP.Core.val32 x) / FP.Core.one32) = ((FP.Core.zmag FP.Core.b32 (FP.Core.val32 x) / FP.Core.one32 : Nat) : Int) ∧ FP.Core.zmag FP.Core.b32 (FP.Core.val32 x) ≤ n * 2 ^ 149 := by
    generalize FP.Core.zmag FP.Core.b32 (FP.Core.val32 x) = z at h1 h2 ⊢
    generalize FP.Core.sgn (FP.Core.val32 x) = sg at h1 h2 ⊢
    cases sg
    · simp only [FP.Core.signed, Bool.false_eq_true, if_false] at h1 h2 ⊢
      exact ⟨trivial, by exact_mod_cast h2⟩
    · simp only [FP.Core.signed, if_true] at h1 h2 ⊢
      have : z = 0 := by omega
      subst this
      exact ⟨by simp, Nat.zero_le _⟩
  have hd : FP.Core.zmag FP.Core.b32 (FP.Core.val32 x) / FP.Core.one32 ≤ n := by
    rw [e1]
    exact Nat.div_le_of_le_mul (by rw [Nat.mul_comm]; exact hz.2)
  rw [hz.1] at hv
  refine ⟨_, hd, ?_⟩
  apply Int32.toInt.inj
  rw [show FP.f2i x = FP.Core.f2i x from rfl, hv, nI_toInt (by omega)]
  generalize FP.Core.zmag FP.Core.b32 (FP.Core.val32 x) / FP.Core.one32 = k at hd ⊢
  rw [Int.min_eq_right (by omega), Int.max_eq_right (by omega)]
/-- a progress: from 0 to 1 -/
def pg (x : UInt32) : Prop := fb 0 (2 ^ 149) x
theorem zz_one : zz FP.fconst1 = 2 ^ 149 := by decide +kernel
theorem zz_two : zz FP.fconst2 = 2 * 2 ^ 149 := by decide +kernel
theorem zz_zero : zz FP.fconst0 = 0 := by decide +kernel
theorem nn_one : nn FP.fconst1 := by unfold nn; decide +kernel
theorem nn_two : nn FP.fconst2 := by unfold nn; decide +kernel
theorem nn_zero : nn FP.fconst0 := by unfold nn; decide +kernel
theorem pg_fin {x : UInt32} (h : pg x) : FP.Core.FFin x := fb_fin h (by decide +kernel) (by decide +kernel)
theorem pg_zero : pg FP.fconst0 := ⟨nn_zero, by rw [zz_zero]; decide, by rw [zz_zero]; decide +kernel⟩
theorem fin_one : FP.Core.FFin FP.fconst1 := fb_fin (lo := 0) (hi := 2 ^ 149) ⟨nn_one, by rw [zz_one]; decide +kernel, by rw [zz_one]; decide +kernel⟩ (by decide +kernel) (by decide +kernel)
/-- a step forward: not a NaN, at most 2 -/
theorem pg_add {x y : UInt32} (hx : pg x) (hy : pg y) : fb 0 (2 * 2 ^ 149) (FP.fadd x y) := by
  have h := fb_add (pg_fin hx) (pg_fin hy) nn_zero nn_two (by rw [zz_zero]; have := hx.2.1; have := hy.2.1; omega) (by rw [zz_two]; have := hx.2.2; have := hy.2.2; omega)
  rwa [zz_zero, zz_two] at h
theorem pg_less {x : UInt32} (hx : fb 0 (2 * 2 ^ 149) x) (h : ¬ zz x < 2 ^ 149) : pg (FP.fsub x FP.fconst1) := by
  have h := fb_sub (fb_fin hx (by decide +kernel) (by decide +kernel)) fin_one nn_zero nn_one (by rw [zz_zero, zz_one]; omega) (by rw [zz_one]; have := hx.2.2; omega)
  rw [zz_zero, zz_one] at h
  exact h
theorem pg_back {x : UInt32} (hx : pg x) : pg (FP.fsub FP.fconst1 x) := by
  have h := fb_sub fin_one (pg_fin hx) nn_zero nn_one (by rw [zz_zero, zz_one]; have := hx.2.2; omega) (by rw [zz_one]; have := hx.2.1; omega)
  rw [zz_zero, zz_one] at h
  exact h
theorem zz_four : zz 1082130432 = 4 * 2 ^ 149 := by decide +kernel
theorem nn_four : nn 1082130432 := by unfold nn; decide +kernel
theorem pg_four {x : UInt32} (hx : pg x) : nn (FP.fmul x 1082130432) ∧ ∃ k : Nat, k ≤ 4 ∧ FP.f2i (FP.fmul x 1082130432) = nI k := by
  have h4 : FP.Core.FFin 1082130432 := fb_fin (lo := 0) (hi := 4 * 2 ^ 149) ⟨nn_four, by rw [zz_four]; decide +kernel, by rw [zz_four]; decide +kernel⟩ (by decide +kernel) (by decide +kernel)
  have h := fb_mul (pg_fin hx) h4 nn_zero nn_four (by rw [zz_zero, zz_four]; have := hx.2.1; omega) (by rw [zz_four]; have := hx.2.2; omega)
  rw [zz_zero, zz_four] at h
  exact ⟨h.1, fb_f2i (n := 4) h (by decide)⟩
/-- a volume: from 0 to one and a half -/
def vl (x : UInt32) : Prop := fb 0 (3 * 2 ^ 148) x
theorem zz_15 : zz 1069547520 = 3 * 2 ^ 148 := by decide +kernel
theorem nn_15 : nn 1069547520 := by unfold nn; decide +kernel
theorem vl_15 : vl 1069547520 := ⟨nn_15, by rw [zz_15]; decide +kernel, by rw [zz_15]; decide +kernel⟩
theorem vl_0 : vl FP.fconst0 := ⟨nn_zero, by rw [zz_zero]; decide, by rw [zz_zero]; decide +kernel⟩
theorem vl_1 : vl FP.fconst1 := ⟨nn_one, by rw [zz_one]; decide +kernel, by rw [zz_one]; decide +kernel⟩
theorem vl_05 : vl 1056964608 := by refine ⟨?_, ?_, ?_⟩ <;> first | (unfold nn; decide +kernel) | decide +kernel
theorem vl_fin {x : UInt32} (h : vl x) : FP.Core.FFin x := fb_fin h (by decide +kernel) (by decide +kernel)
theorem fb_09 : fb 0 (2 ^ 149) 1063675494 := by refine ⟨?_, ?_, ?_⟩ <;> first | (unfold nn; decide +kernel) | decide +kernel
theorem vl_fade {x : UInt32} (hx : vl x) : vl (FP.fmul x 1063675494) := by
  have h9 := fb_09
  have h := fb_mul (vl_fin hx) (fb_fin h9 (by decide +kernel) (by decide +kernel)) nn_zero nn_15 (by
      rw [zz_zero]
      have := Int.mul_nonneg hx.2.1 h9.2.1
      omega) (by
      rw [zz_15]
      exact Int.mul_le_mul hx.2.2 h9.2.2 h9.2.1 (by decide +kernel))
  rw [zz_zero, zz_15] at h
  exact h
/-- a sample's factor: the 16 heights less 7.5 -/
theorem fb_high : ∀ k, k < 16 → nn (FP.fsub (FP.i2f (nI k)) 1089470464) ∧ -(8 * 2 ^ 149) ≤ zz (FP.fsub (FP.i2f (nI k)) 1089470464) ∧ zz (FP.fsub (FP.i2f (nI k)) 1089470464) ≤ 8 * 2 ^ 149 := by unfold nn; decide +kernel
theorem zz_16 : zz 1098907648 = 16 * 2 ^ 149 := by decide +kernel
theorem zz_m16 : zz 3246391296 = -(16 * 2 ^ 149) := by decide +kernel
theorem zz_32 : zz 1107296256 = 32 * 2 ^ 149 := by decide +kernel
theorem zz_m32 : zz 3254779904 = -(32 * 2 ^ 149) := by decide +kernel
theorem zz_64 : zz 1115684864 = 64 * 2 ^ 149 := by decide +kernel
theorem zz_m64 : zz 3263168512 = -(64 * 2 ^ 149) := by decide +kernel
theorem nn_c : nn 1098907648 ∧ nn 3246391296 ∧ nn 1107296256 ∧ nn 3254779904 ∧ nn 1115684864 ∧ nn 3263168512 := by unfold nn; decide +kernel
theorem fb_sample {a v : UInt32} (ha : fb (-(8 * 2 ^ 149)) (8 * 2 ^ 149) a) (hv : vl v) : fb (-(16 * 2 ^ 149)) (16 * 2 ^ 149) (FP.fmul a v) := by
  have h0 : (0 : Int) ≤ 8 * 2 ^ 149 := by decide +kernel
  have hv2 : zz v ≤ 2 * 2 ^ 149 := Int.le_trans hv.2.2 (by decide +kernel)
  have u1 : zz a * zz v ≤ (8 * 2 ^ 149) * (2 * 2 ^ 149) := Int.le_trans (Int.mul_le_mul_of_nonneg_right ha.2.2 hv.2.1) (Int.mul_le_mul_of_nonneg_left hv2 h0)
  have u2 : -((8 * 2 ^ 149) * (2 * 2 ^ 149)) ≤ zz a * zz v := by
    have e1 := Int.mul_le_mul_of_nonneg_right ha.2.1 hv.2.1
    have e2 := Int.mul_le_mul_of_nonneg_left hv2 h0
    rw [Int.neg_mul] at e1
    omega
  have h := fb_mul (fb_fin ha (by decide +kernel) (by decide +kernel)) (vl_fin hv) nn_c.2.1 nn_c.1 (by rw [zz_m16]; refine Int.le_trans ?_ u2; decide +kernel) (by rw [zz_16]; refine Int.le_trans u1 ?_; decide +kernel)
  rwa [zz_m16, zz_16] at h
theorem fb_sum0 {b : UInt32} (hb : fb (-(16 * 2 ^ 149)) (16 * 2 ^ 149) b) : fb (-(16 * 2 ^ 149)) (16 * 2 ^ 149) (FP.fadd FP.fconst0 b) := by
  have h := fb_add (fb_fin (lo := 0) (hi := 2 ^ 149) pg_zero (by decide +kernel) (by decide +kernel)) (fb_fin hb (by decide +kernel) (by decide +kernel)) nn_c.2.1 nn_c.1 (by rw [zz_m16, zz_zero]; have := hb.2.1; omega) (by rw [zz_16, zz_zero]; have := hb.2.2; omega)
  rwa [zz_m16, zz_16] at h
theorem fb_sum1 {a b : UInt32} (ha : fb (-(16 * 2 ^ 149)) (16 * 2 ^ 149) a) (hb : fb (-(16 * 2 ^ 149)) (16 * 2 ^ 149) b) : fb (-(32 * 2 ^ 149)) (32 * 2 ^ 149) (FP.fadd a b) := by
  have h := fb_add (fb_fin ha (by decide +kernel) (by decide +kernel)) (fb_fin hb (by decide +kernel) (by decide +kernel)) nn_c.2.2.2.1 nn_c.2.2.1 (by rw [zz_m32]; have := ha.2.1; have := hb.2.1; omega) (by rw [zz_32]; have := ha.2.2; have := hb.2.2; omega)
  rwa [zz_m32, zz_32] at h
theorem fb_sum2 {a b : UInt32} (ha : fb (-(32 * 2 ^ 149)) (32 * 2 ^ 149) a) (hb : fb (-(16 * 2 ^ 149)) (16 * 2 ^ 149) b) : fb (-(64 * 2 ^ 149)) (64 * 2 ^ 149) (FP.fadd a b) := by
  have h := fb_add (fb_fin ha (by decide +kernel) (by decide +kernel)) (fb_fin hb (by decide +kernel) (by decide +kernel)) nn_c.2.2.2.2.2 nn_c.2.2.2.2.1 (by rw [zz_m64]; have := ha.2.1; have := hb.2.1; omega) (by rw [zz_64]; have := ha.2.2; have := hb.2.2; omega)
  rwa [zz_m64, zz_64] at h
/-- the player's and the hunters' speeds, by the level -/
theorem sp_player : ∀ k, k < 5 → nn (FP.fmul 1028443341 (FP.i2f (nI k))) ∧ nn (FP.fadd FP.fconst1 (FP.fmul 1028443341 (FP.i2f (nI k)))) ∧ nn (FP.fmul 1045220557 (FP.fadd FP.fconst1 (FP.fmul 1028443341 (FP.i2f (nI k))))) ∧ 0 ≤ zz (FP.fmul 1045220557 (FP.fadd FP.fconst1 (FP.fmul 1028443341 (FP.i2f (nI k))))) ∧ zz (FP.fmul 1045220557 (FP.fadd FP.fconst1 (FP.fmul 1028443341 (FP.i2f (nI k))))) ≤ 2 ^ 149 := by unfold nn; decide +kernel
theorem sp_hunter : ∀ k, k < 6 → nn (FP.fmul 1025758986 (FP.i2f (nI k))) ∧ nn (FP.fadd FP.fconst1 (FP.fmul 1025758986 (FP.i2f (nI k)))) ∧ nn (FP.fmul 1044549468 (FP.fadd FP.fconst1 (FP.fmul 1025758986 (FP.i2f (nI k))))) ∧ 0 ≤ zz (FP.fmul 1044549468 (FP.fadd FP.fconst1 (FP.fmul 1025758986 (FP.i2f (nI k))))) ∧ zz (FP.fmul 1044549468 (FP.fadd FP.fconst1 (FP.fmul 1025758986 (FP.i2f (nI k))))) ≤ 2 ^ 149 := by unfold nn; decide +kernel
theorem sp_afraid : ∀ k, k < 6 → nn (FP.fdiv (FP.fmul 1044549468 (FP.fadd FP.fconst1 (FP.fmul 1025758986 (FP.i2f (nI k))))) FP.fconst2) ∧ 0 ≤ zz (FP.fdiv (FP.fmul 1044549468 (FP.fadd FP.fconst1 (FP.fmul 1025758986 (FP.i2f (nI k))))) FP.fconst2) ∧ zz (FP.fdiv (FP.fmul 1044549468 (FP.fadd FP.fconst1 (FP.fmul 1025758986 (FP.i2f (nI k))))) FP.fconst2) ≤ 2 ^ 149 := by unfold nn; decide +kernel
theorem vf64 {x : UInt32} (h : nn x) : vf_n64 (FP.f2d x) := by
  have hf : FP.Core.fIsNaN x = false := (FP.Core.notNaN_iff32 x).mpr h
  have h1 : FP.Core.dIsNaN (FP.f2d x) = false := by
    unfold FP.f2d
    rw [hf]
    simp only [Bool.false_eq_true, if_false]
    rw [FP.Core.f2d_nan x]
    exact hf
  have h2 : ¬ 9218868437227405312 < (FP.f2d x).toNat % 2 ^ 63 := fun z => by
    rw [← FP.Core.isNaN_bits, h1] at z
    exact Bool.noConfusion z
  unfold vf_n64
  rw [UInt64.le_iff_toNat_le, UInt64.toNat_and]
  have e : (9223372036854775807 : UInt64).toNat = 2 ^ 63 - 1 := by decide
  rw [e, Nat.and_two_pow_sub_one_eq_mod]
  exact Nat.not_lt.mp h2
