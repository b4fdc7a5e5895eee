theorem nI_bv (n : Nat) : (nI n).toBitVec = BitVec.ofNat 32 n := rfl
theorem nI_and (a b : Nat) : nI a &&& nI b = nI (a &&& b) := by
  apply Int32.toBitVec_inj.mp
  rw [Int32.toBitVec_and, nI_bv, nI_bv, nI_bv, BitVec.ofNat_and]
theorem nI_or (a b : Nat) : nI a ||| nI b = nI (a ||| b) := by
  apply Int32.toBitVec_inj.mp
  rw [Int32.toBitVec_or, nI_bv, nI_bv, nI_bv, BitVec.ofNat_or]
theorem sm31 : ∀ k : Nat, k < 32 → ((nI k &&& 31).toBitVec.smod 32).toNat = k := by
  have h : ∀ k : Fin 32, ((nI k.val &&& 31).toBitVec.smod 32).toNat = k.val := by decide +kernel
  intro k hk
  exact h ⟨k, hk⟩
theorem nI_shr {a k : Nat} (ha : a < 2147483648) (hk : k < 32) : nI a >>> (nI k &&& 31) = nI (a / 2 ^ k) := by
  apply Int32.toInt_inj.mp
  show (BitVec.sshiftRight' (nI a).toBitVec ((nI k &&& 31).toBitVec.smod 32)).toInt = _
  rw [BitVec.toInt_sshiftRight', sm31 k hk]
  have h2 : (nI a).toBitVec.toInt = (a : Int) := nI_toInt ha
  rw [h2, Int.shiftRight_eq_div_pow, nI_toInt (by have := Nat.div_le_self a (2 ^ k); omega), Int.natCast_ediv, Int.natCast_pow]
theorem nI_shl {a k : Nat} (hk : k < 32) : nI a <<< (nI k &&& 31) = nI (a * 2 ^ k) := by
  apply Int32.toBitVec_inj.mp
  show (nI a).toBitVec <<< ((nI k &&& 31).toBitVec.smod 32) = _
  rw [BitVec.shiftLeft_eq', sm31 k hk, nI_bv, nI_bv]
  apply BitVec.eq_of_toNat_eq
  rw [BitVec.toNat_shiftLeft, BitVec.toNat_ofNat, BitVec.toNat_ofNat, Nat.shiftLeft_eq, Nat.mod_mul_mod]
theorem su31 : ∀ k : Nat, k < 32 → ((nI k).toUInt32 &&& Int32.toUInt32 31).toNat % 32 = k := by
  have h : ∀ k : Fin 32, ((nI k.val).toUInt32 &&& Int32.toUInt32 31).toNat % 32 = k.val := by decide +kernel
  intro k hk
  exact h ⟨k, hk⟩
theorem nI_u32 {a : Nat} (ha : a < 2147483648) : (nI a).toUInt32.toNat = a := by
  show (nI a).toBitVec.toNat = a
  rw [nI_bv, BitVec.toNat_ofNat, Nat.mod_eq_of_lt (by omega)]
theorem nI_ushr {a k : Nat} (ha : a < 2147483648) (hk : k < 32) : ((nI a).toUInt32 >>> ((nI k).toUInt32 &&& Int32.toUInt32 31)).toInt32 = nI (a / 2 ^ k) := by
  apply Int32.toBitVec_inj.mp
  apply BitVec.eq_of_toNat_eq
  show ((nI a).toUInt32 >>> ((nI k).toUInt32 &&& Int32.toUInt32 31)).toNat = _
  rw [UInt32.toNat_shiftRight, su31 k hk, nI_u32 ha, nI_bv, BitVec.toNat_ofNat, Nat.shiftRight_eq_div_pow, Nat.mod_eq_of_lt (by have := Nat.div_le_self a (2 ^ k); omega)]
theorem land2 (a b : Nat) : a &&& b = 2 * ((a / 2) &&& (b / 2)) + (if a % 2 = 1 ∧ b % 2 = 1 then 1 else 0) := by
  have h1 : (a &&& b) / 2 = (a / 2) &&& (b / 2) := Nat.and_div_two
  have h2 : (a &&& b) % 2 = 1 ↔ a % 2 = 1 ∧ b % 2 = 1 := Nat.and_mod_two_eq_one
  rw [← h1]
  by_cases c : a % 2 = 1 ∧ b % 2 = 1
  · rw [if_pos c]
    have := h2.mpr c
    omega
  · rw [if_neg c]
    have : ¬ (a &&& b) % 2 = 1 := fun q => c (h2.mp q)
    omega
/-- trailing zeros of a number below 2^f -/
def ctz : Nat → Nat → Nat
  | 0, _ => 0
  | f + 1, h => if h % 2 = 1 then 0 else ctz f (h / 2) + 1
theorem ctz_lt : ∀ (f h : Nat), 0 < h → h < 2 ^ f → ctz f h < f := by
  intro f
  induction f with
  | zero => intro h h1 h2; omega
  | succ f ih =>
    intro h h1 h2
    unfold ctz
    by_cases c : h % 2 = 1
    · rw [if_pos c]; omega
    · rw [if_neg c]
      have := ih (h / 2) (by omega) (by omega)
      omega
theorem land_pred : ∀ (f h : Nat), 0 < h → h < 2 ^ f → (h &&& (h - 1)) + 2 ^ (ctz f h) = h := by
  intro f
  induction f with
  | zero => intro h h1 h2; omega
  | succ f ih =>
    intro h h1 h2
    rw [land2]
    unfold ctz
    by_cases c : h % 2 = 1
    · rw [if_pos c, if_neg (by omega), show (h - 1) / 2 = h / 2 by omega, Nat.and_self]
      omega
    · have q := ih (h / 2) (by omega) (by omega)
      rw [if_neg c, if_neg (by omega), show (h - 1) / 2 = h / 2 - 1 by omega, Nat.pow_succ]
      omega
theorem land_compl : ∀ (f h : Nat), h < 2 ^ f → ((2 ^ f - 1 - h) &&& h) = 0 := by
  intro f
  induction f with
  | zero => intro h h2; have : h = 0 := by omega
            subst this; rfl
  | succ f ih =>
    intro h h2
    have h3 : 2 ^ (f + 1) = 2 * 2 ^ f := by rw [Nat.pow_succ]; omega
    rw [land2, if_neg (by omega), show (2 ^ (f + 1) - 1 - h) / 2 = 2 ^ f - 1 - h / 2 by omega, ih (h / 2) (by omega)]
theorem land_low : ∀ (f h : Nat), 0 < h → h < 2 ^ f → ((2 ^ f - 1 - h) &&& (h - 1)) = 2 ^ (ctz f h) - 1 := by
  intro f
  induction f with
  | zero => intro h h1 h2; omega
  | succ f ih =>
    intro h h1 h2
    have h3 : 2 ^ (f + 1) = 2 * 2 ^ f := by rw [Nat.pow_succ]; omega
    rw [land2, show (2 ^ (f + 1) - 1 - h) / 2 = 2 ^ f - 1 - h / 2 by omega]
    unfold ctz
    by_cases c : h % 2 = 1
    · rw [if_pos c, if_neg (by omega), show (h - 1) / 2 = h / 2 by omega, land_compl f _ (by omega)]
    · have q := ih (h / 2) (by omega) (by omega)
      have p := Nat.two_pow_pos (ctz f (h / 2))
      rw [if_neg c, if_pos (by omega), show (h - 1) / 2 = h / 2 - 1 by omega, q, Nat.pow_succ]
      omega
theorem ctz_up : ∀ (f h : Nat), 0 < h → h < 2 ^ f → ctz (f + 1) h = ctz f h := by
  intro f
  induction f with
  | zero => intro h h1 h2; omega
  | succ f ih =>
    intro h h1 h2
    show (if h % 2 = 1 then 0 else ctz (f + 1) (h / 2) + 1) = if h % 2 = 1 then 0 else ctz f (h / 2) + 1
    by_cases c : h % 2 = 1
    · rw [if_pos c, if_pos c]
    · rw [if_neg c, if_neg c, ih (h / 2) (by omega) (by omega)]
theorem ctz_up2 {h : Nat} (h1 : 0 < h) (h2 : h < 65536) : ∀ j, ctz (16 + j) h = ctz 16 h := by
  intro j
  induction j with
  | zero => rfl
  | succ j ih =>
    rw [show 16 + (j + 1) = 16 + j + 1 from rfl, ctz_up _ h h1 (Nat.lt_of_lt_of_le h2 (Nat.pow_le_pow_right (n := 2) (i := 16) (by decide) (by omega))), ih]
theorem tz_w {h : Nat} (h1 : 0 < h) (h2 : h < 65536) : (nI h ^^^ -1) &&& (nI h - 1) = nI (2 ^ (ctz 16 h) - 1) := by
  have e1 : nI h ^^^ -1 = nI (2 ^ 32 - 1 - h) := by
    apply Int32.toBitVec_inj.mp
    apply BitVec.eq_of_toNat_eq
    have e : (nI h ^^^ -1).toBitVec = ~~~ (nI h).toBitVec := by
      rw [Int32.toBitVec_xor, show (-1 : Int32).toBitVec = BitVec.allOnes 32 from by decide, BitVec.xor_allOnes]
    rw [e, BitVec.toNat_not, nI_bv, nI_bv, BitVec.toNat_ofNat, BitVec.toNat_ofNat]
    omega
  have e2 : nI h - 1 = nI (h - 1) := nI_sub (b := 1) (by omega) (by omega)
  rw [e1, e2, nI_and, land_low 32 h h1 (by omega), show (32 : Nat) = 16 + 16 from rfl, ctz_up2 h1 h2]
def pcn : Nat → Nat → Nat
  | 0, _ => 0
  | f + 1, h => h % 2 + pcn f (h / 2)
def bc1 (h : Nat) : Nat := h - (h / 2 &&& 1431655765)
def bc2 (h : Nat) : Nat := (h &&& 858993459) + (h / 4 &&& 858993459)
def bc3 (h : Nat) : Nat := (h + h / 16) &&& 252645135
def bc4 (h : Nat) : Nat := h + h / 256
def bc5 (h : Nat) : Nat := h + h / 65536
theorem land_split (a b c e : Nat) (hb : b < 256) (he : e < 256) : (256 * a + b) &&& (256 * c + e) = 256 * (a &&& c) + (b &&& e) := by
  apply Nat.eq_of_testBit_eq
  intro i
  have h2 : (256 : Nat) = 2 ^ 8 := rfl
  have hbe : (b &&& e) < 2 ^ 8 := Nat.lt_of_le_of_lt Nat.and_le_left hb
  rw [Nat.testBit_and, h2, Nat.testBit_two_pow_mul_add a hb, Nat.testBit_two_pow_mul_add c he, Nat.testBit_two_pow_mul_add (a &&& c) hbe]
  by_cases q : i < 8
  · rw [if_pos q, if_pos q, if_pos q, Nat.testBit_and]
  · rw [if_neg q, if_neg q, if_neg q, Nat.testBit_and]
/-- one byte: its three stages -/
def by3 (b : Nat) : Nat := bc3 (bc2 (bc1 b))
def byT (b : Nat) : Bool := decide (by3 b = pcn 8 b) && decide (pcn 8 b ≤ 8)
def chk (p : Nat → Bool) : Nat → Bool
  | 0 => true
  | n + 1 => p n && chk p n
theorem chk_at {p : Nat → Bool} : ∀ {n : Nat}, chk p n = true → ∀ i, i < n → p i = true := by
  intro n
  induction n with
  | zero => intro _ i hi; omega
  | succ n ih =>
    intro h i hi
    have q := Bool.and_eq_true_iff.mp h
    by_cases e : i = n
    · rw [e]; exact q.1
    · exact ih q.2 i (by omega)
def t1T (b : Nat) : Bool := decide ((b / 2 &&& 85) = (b / 2 &&& 1431655765)) && (decide (((b / 2 + 128) &&& 85) = (b / 2 &&& 1431655765)) && (decide ((b / 2 &&& 5592405) = (b / 2 &&& 1431655765)) && decide ((b / 2 &&& 1431655765) ≤ b)))
theorem t1_ok : chk t1T 256 = true := by decide +kernel
theorem bc1_split {a b : Nat} (ha : a < 256) (hb : b < 256) : bc1 (256 * a + b) = 256 * bc1 a + bc1 b ∧ bc1 b ≤ b := by
  have pa := chk_at t1_ok a ha
  have pb := chk_at t1_ok b hb
  simp only [t1T, Bool.and_eq_true, decide_eq_true_eq] at pa pb
  obtain ⟨a1, a2, a3, a4⟩ := pa
  obtain ⟨b1, b2, b3, b4⟩ := pb
  have e : ((256 * a + b) / 2 &&& 1431655765) = 256 * (a / 2 &&& 5592405) + ((b / 2 + 128 * (a % 2)) &&& 85) := by
    rw [show (256 * a + b) / 2 = 256 * (a / 2) + (b / 2 + 128 * (a % 2)) by omega, show (1431655765 : Nat) = 256 * 5592405 + 85 from rfl, land_split _ _ _ _ (by omega) (by decide)]
  unfold bc1
  rw [e]
  have q : a % 2 = 0 ∨ a % 2 = 1 := by omega
  rcases q with q | q
  · rw [q, Nat.mul_zero, Nat.add_zero]; omega
  · rw [q, Nat.mul_one]; omega
def t2T (b : Nat) : Bool := decide ((b / 4 &&& 51) = (b / 4 &&& 858993459)) && (decide (((b / 4 + 64) &&& 51) = (b / 4 &&& 858993459)) && (decide (((b / 4 + 128) &&& 51) = (b / 4 &&& 858993459)) && (decide (((b / 4 + 192) &&& 51) = (b / 4 &&& 858993459)) && (decide ((b / 4 &&& 3355443) = (b / 4 &&& 858993459)) && (decide ((b &&& 3355443) = (b &&& 858993459)) && (decide ((b &&& 51) = (b &&& 858993459)) && (decide ((b &&& 858993459) ≤ 51) && decide ((b / 4 &&& 858993459) ≤ 51))))))))
theorem t2_ok : chk t2T 256 = true := by decide +kernel
theorem bc2_split {a b : Nat} (ha : a < 256) (hb : b < 256) : bc2 (256 * a + b) = 256 * bc2 a + bc2 b := by
  have pa := chk_at t2_ok a ha
  have pb := chk_at t2_ok b hb
  simp only [t2T, Bool.and_eq_true, decide_eq_true_eq] at pa pb
  obtain ⟨a1, a2, a3, a4, a5, a6, a7, a8, a9⟩ := pa
  obtain ⟨b1, b2, b3, b4, b5, b6, b7, b8, b9⟩ := pb
  have e : ((256 * a + b) / 4 &&& 858993459) = 256 * (a / 4 &&& 3355443) + ((b / 4 + 64 * (a % 4)) &&& 51) := by
    rw [show (256 * a + b) / 4 = 256 * (a / 4) + (b / 4 + 64 * (a % 4)) by omega, show (858993459 : Nat) = 256 * 3355443 + 51 from rfl, land_split _ _ _ _ (by omega) (by decide)]
  have e2 : ((256 * a + b) &&& 858993459) = 256 * (a &&& 3355443) + (b &&& 51) := by
    rw [show (858993459 : Nat) = 256 * 3355443 + 51 from rfl, land_split _ _ _ _ hb (by decide)]
  unfold bc2
  rw [e, e2]
  have q : a % 4 = 0 ∨ a % 4 = 1 ∨ a % 4 = 2 ∨ a % 4 = 3 := by omega
  rcases q with q | q | q | q <;> rw [q] <;> simp only [Nat.mul_zero, Nat.add_zero, Nat.mul_one, Nat.reduceMul] <;> omega
def t3T (b : Nat) : Bool := decide (bc3 (bc2 (bc1 b)) = pcn 8 b) && (decide (pcn 8 b ≤ 8) && (decide (bc2 (bc1 b) ≤ 68) && (decide (bc2 (bc1 b) % 16 ≤ 4) && (chk (fun j => decide (((bc2 (bc1 b) + bc2 (bc1 b) / 16 + 16 * j) &&& 15) = pcn 8 b)) 5 && decide (((bc2 (bc1 b) + bc2 (bc1 b) / 16) &&& 986895) = pcn 8 b)))))
theorem t3_ok : chk t3T 256 = true := by decide +kernel
theorem pcn_split {a b : Nat} (hb : b < 256) : pcn 16 (256 * a + b) = pcn 8 a + pcn 8 b := by
  simp only [pcn, Nat.add_zero]
  omega
theorem bc_all {h : Nat} (hh : h < 65536) : bc5 (bc4 (bc3 (bc2 (bc1 h)))) &&& 63 = pcn 16 h ∧ bc1 h < 65536 ∧ bc2 (bc1 h) < 65536 ∧ bc3 (bc2 (bc1 h)) < 65536 ∧ bc4 (bc3 (bc2 (bc1 h))) < 65536 * 2 ∧ bc5 (bc4 (bc3 (bc2 (bc1 h)))) < 65536 * 3 := by
  have e : h = 256 * (h / 256) + h % 256 := by omega
  have ha : h / 256 < 256 := by omega
  have hb : h % 256 < 256 := by omega
  generalize h / 256 = a at *
  generalize h % 256 = b at *
  subst e
  obtain ⟨s1, l1⟩ := bc1_split ha hb
  have l2 := (bc1_split (a := 0) (by decide) ha).2
  have s2 := bc2_split (a := bc1 a) (b := bc1 b) (by omega) (by omega)
  have pa := chk_at t3_ok a ha
  have pb := chk_at t3_ok b hb
  simp only [t3T, Bool.and_eq_true, decide_eq_true_eq] at pa pb
  obtain ⟨a1, a2, a3, a4, a5, a6⟩ := pa
  obtain ⟨b1, b2, b3, b4, b5, b6⟩ := pb
  rw [s1, s2]
  have b5 := chk_at b5 (bc2 (bc1 a) % 16) (by omega)
  simp only [decide_eq_true_eq] at b5
  generalize bc2 (bc1 a) = p at *
  generalize bc2 (bc1 b) = q at *
  have s3 : bc3 (256 * p + q) = 256 * pcn 8 a + pcn 8 b := by
    unfold bc3
    rw [show 256 * p + q + (256 * p + q) / 16 = 256 * (p + p / 16) + (q + q / 16 + 16 * (p % 16)) by omega, show (252645135 : Nat) = 256 * 986895 + 15 from rfl, land_split _ _ _ _ (by omega) (by decide), a6, b5]
  rw [s3, pcn_split hb]
  generalize pcn 8 a = u at *
  generalize pcn 8 b = v at *
  have s4 : bc4 (256 * u + v) = 256 * u + (v + u) := by unfold bc4; omega
  have s5 : bc5 (256 * u + (v + u)) = 256 * u + (v + u) := by unfold bc5; omega
  rw [s4, s5]
  refine ⟨?_, by omega, by omega, by omega, by omega, by omega⟩
  rw [show (63 : Nat) = 256 * 0 + 63 from rfl, land_split _ _ _ _ (by omega) (by decide), Nat.and_zero, Nat.mul_zero, Nat.zero_add, show (63 : Nat) = 2 ^ 6 - 1 from rfl, Nat.and_two_pow_sub_one_eq_mod]
  omega
theorem i_us1 {a : Nat} (ha : a < 2147483648) : ((nI a).toUInt32 >>> (Int32.toUInt32 1 &&& Int32.toUInt32 31)).toInt32 = nI (a / 2) := nI_ushr (k := 1) ha (by decide)
theorem i_us2 {a : Nat} (ha : a < 2147483648) : ((nI a).toUInt32 >>> (Int32.toUInt32 2 &&& Int32.toUInt32 31)).toInt32 = nI (a / 4) := nI_ushr (k := 2) ha (by decide)
theorem i_us4 {a : Nat} (ha : a < 2147483648) : ((nI a).toUInt32 >>> (Int32.toUInt32 4 &&& Int32.toUInt32 31)).toInt32 = nI (a / 16) := nI_ushr (k := 4) ha (by decide)
theorem i_us8 {a : Nat} (ha : a < 2147483648) : ((nI a).toUInt32 >>> (Int32.toUInt32 8 &&& Int32.toUInt32 31)).toInt32 = nI (a / 256) := nI_ushr (k := 8) ha (by decide)
theorem i_us16 {a : Nat} (ha : a < 2147483648) : ((nI a).toUInt32 >>> (Int32.toUInt32 16 &&& Int32.toUInt32 31)).toInt32 = nI (a / 65536) := nI_ushr (k := 16) ha (by decide)
theorem nI_le4 {a : Nat} (ha : a < 2147483648) : (nI a ≤ 4) = (a ≤ 4) := nI_le' (b := 4) ha (by decide)
theorem nI_le16 {a : Nat} (ha : a < 2147483648) : (nI a ≤ 16) = (a ≤ 16) := nI_le' (b := 16) ha (by decide)
theorem nI_le256 {a : Nat} (ha : a < 2147483648) : (nI a ≤ 256) = (a ≤ 256) := nI_le' (b := 256) ha (by decide)
theorem nI_le65536 {a : Nat} (ha : a < 2147483648) : (nI a ≤ 65536) = (a ≤ 65536) := nI_le' (b := 65536) ha (by decide)
theorem nI_p1 (a : Nat) : 1 + nI a = nI (1 + a) := nI_add 1 a
theorem nI_p3 (a : Nat) : 3 + nI a = nI (3 + a) := nI_add 3 a
theorem nI_p5 (a : Nat) : 5 + nI a = nI (5 + a) := nI_add 5 a
theorem nI_p7 (a : Nat) : 7 + nI a = nI (7 + a) := nI_add 7 a
theorem nI_p9 (a : Nat) : 9 + nI a = nI (9 + a) := nI_add 9 a
theorem nI_p11 (a : Nat) : 11 + nI a = nI (11 + a) := nI_add 11 a
theorem nI_p13 (a : Nat) : 13 + nI a = nI (13 + a) := nI_add 13 a
theorem nI_p15 (a : Nat) : 15 + nI a = nI (15 + a) := nI_add 15 a
section T40
variable {X : am_X} {d : Nat} {K : am_K} {S : am_S} {M : am_M} {L : am_L} {V : am_M}
theorem c_JI_ntz {h : Nat} (h1 : 0 < h) (h2 : h < 65536) (k : K (some (.int (nI (ctz 16 h)))) S M L) : am_Call X d m_JI_numberOfTrailingZeros [.int (nI h)] S M L K := by
  have c16 := ctz_lt 16 h h1 h2
  refine EE_JI_numberOfTrailingZeros pt32_ok ?_
  simp only [s_bipush, s_iadd, s_iand, s_ic_le, s_iconst, s_if_gt, s_iinc_1, s_iload_0_int, s_iload_1_int, s_ireturn, s_istore_0_int, s_istore_1_int, s_isub, s_iushr, s_ixor, s_ldc_w, s_sipush, J_JI_numberOfTrailingZeros_0, b_JI_numberOfTrailingZeros_0, J_JI_numberOfTrailingZeros_17, b_JI_numberOfTrailingZeros_17, J_JI_numberOfTrailingZeros_34, b_JI_numberOfTrailingZeros_34, J_JI_numberOfTrailingZeros_49, b_JI_numberOfTrailingZeros_49, J_JI_numberOfTrailingZeros_62, b_JI_numberOfTrailingZeros_62, J_JI_numberOfTrailingZeros_74, b_JI_numberOfTrailingZeros_74, s_end, true_and, and_true, or_true, true_or, if_true, if_false, ite_true, ite_false, List.map_nil, List.map_cons, List.sum_nil, List.sum_cons, List.nil_append, List.cons_append, Option.toList_some, Option.toList_none, Nat.reduceAdd, Nat.reduceLeDiff, Nat.reduceSub, Nat.zero_le, List.headD_cons, List.tail_cons, List.length_cons, List.length_nil, ne_eq, reduceCtorEq, false_or, or_false, not_false_eq_true, Nat.reduceEqDiff, Nat.reduceLT, am_sw, bI_0, bI_z, bI_y, Classical.not_not, Nat.le_add_left, am_u_row2, am_r_row2, am_u_same, am_u_at, am_r_same, Int32.reduceLT, Int32.reduceLE, Int32.reduceAdd, Int32.reduceSub, Int32.reduceMul, forall_const, not_true_eq_false, implies_true, false_imp_iff, true_imp_iff, i_10, i_01, i_m10, i_m11, eq_self, or_self, false_and, and_false, and_self, am_so_some, am_pv_some, am_pv_none, l_cl_none, l_cl_int, l_cl_ref, l_cl_ra, l_cl_null, l_cl_long, cat_int, cat_ref, cat_long, cat_ra, cat_null, cl_0, cl_1, cl_2, cl_3, cl_4, cl_5, cl_6, cl_7, cl_8, cl_9, cl_10, cl_11, cl_12, cl_13, cl_14, cl_15, cl_16, cl_30, cl_64, cl_500, vl_0_2, vl_0_3, vl_0_4, vl_0_6, vl_0_7, vl_0_12, vl_0_16, vl_0_1400, vl_1_2, vl_1_3, vl_1_4, vl_1_6, vl_1_7, vl_1_12, vl_1_16, vl_1_1400, vl_2_3, vl_2_4, vl_2_6, vl_2_7, vl_2_12, vl_2_16, vl_2_1400, vl_3_4, vl_3_6, vl_3_7, vl_3_12, vl_3_16, vl_3_1400, vl_4_6, vl_4_7, vl_4_12, vl_4_16, vl_4_1400, vl_5_6, vl_5_7, vl_5_12, vl_5_16, vl_5_1400, vl_6_7, vl_6_12, vl_6_16, vl_6_1400, vl_7_12, vl_7_16, vl_8_12, vl_8_16, vl_9_12, vl_9_16, vl_10_12, vl_10_16, vl_11_12, vl_11_16, i_64le_e, i64a_0, i64b_0, i64a_1, i64b_1, i64a_2, i64b_2, i64a_3, i64b_3, i64a_4, i64b_4, i64a_5, i64b_5, i64a_7, i64b_7, i64a_8, i64b_8, i64a_9, i64b_9, i64a_10, i64b_10, i64a_16, i64b_16, i64a_50, i64b_50, i64a_m50, i64b_m50, i64a_60, i64b_60, i64a_99, i64b_99, i64a_100, i64b_100, i64a_500, i64b_500, i64a_600, i64b_600, i64a_1000, i64b_1000, i64a_1000000, i64b_1000000, i64a_m9, i64b_m9]
  have e := tz_w h1 h2
  simp only [e]
  generalize ctz 16 h = c at *
  have q : c = 0 ∨ c = 1 ∨ c = 2 ∨ c = 3 ∨ c = 4 ∨ c = 5 ∨ c = 6 ∨ c = 7 ∨ c = 8 ∨ c = 9 ∨ c = 10 ∨ c = 11 ∨ c = 12 ∨ c = 13 ∨ c = 14 ∨ c = 15 := by omega
  rcases q with rfl | rfl | rfl | rfl | rfl | rfl | rfl | rfl | rfl | rfl | rfl | rfl | rfl | rfl | rfl | rfl
  · simp only [Nat.reducePow, Nat.reduceSub]
    exact ⟨fun h => absurd h (by decide), fun _ => k⟩
  all_goals simp (disch := omega) only [Nat.reducePow, Nat.reduceSub, Nat.reduceDiv, Nat.reduceLeDiff, Nat.reduceLT, i_us1, i_us2, i_us4, i_us8, i_us16, nI_le4, nI_le16, nI_le256, nI_le65536, nI_0lt, nI_p1, nI_p3, nI_p5, nI_p7, nI_p9, nI_p11, nI_p13, nI_p15, Nat.reduceAdd, true_imp_iff, false_imp_iff, not_true_eq_false, not_false_eq_true, and_true, true_and, Nat.lt_add_one]
  all_goals exact k
theorem c_JI_bitCount {h : Nat} (hh : h < 65536) (k : K (some (.int (nI (pcn 16 h)))) S M L) : am_Call X d m_JI_bitCount [.int (nI h)] S M L K := by
  obtain ⟨z, l1, l2, l3, l4, l5⟩ := bc_all hh
  have lt1 : h / 2 &&& 1431655765 ≤ h := by
    have := @Nat.and_le_left (h / 2) 1431655765
    omega
  have e1 : nI h - (nI (h / 2) &&& 1431655765) = nI (bc1 h) := by
    rw [show (1431655765 : Int32) = nI 1431655765 from rfl, nI_and, nI_sub lt1 (by omega)]; rfl
  have e2 : (nI (bc1 h) &&& 858993459) + (nI (bc1 h / 4) &&& 858993459) = nI (bc2 (bc1 h)) := by
    rw [show (858993459 : Int32) = nI 858993459 from rfl, nI_and, nI_and, nI_add]; rfl
  have e3 : (nI (bc2 (bc1 h)) + nI (bc2 (bc1 h) / 16)) &&& 252645135 = nI (bc3 (bc2 (bc1 h))) := by
    rw [show (252645135 : Int32) = nI 252645135 from rfl, nI_add, nI_and]; rfl
  have e4 : nI (bc3 (bc2 (bc1 h))) + nI (bc3 (bc2 (bc1 h)) / 256) = nI (bc4 (bc3 (bc2 (bc1 h)))) := nI_add _ _
  have e5 : nI (bc4 (bc3 (bc2 (bc1 h)))) + nI (bc4 (bc3 (bc2 (bc1 h))) / 65536) = nI (bc5 (bc4 (bc3 (bc2 (bc1 h))))) := nI_add _ _
  have e6 : nI (bc5 (bc4 (bc3 (bc2 (bc1 h))))) &&& 63 = nI (pcn 16 h) := by
    rw [show (63 : Int32) = nI 63 from rfl, nI_and, z]
  refine EE_JI_bitCount pt32_ok ?_
  simp only [s_bipush, s_iadd, s_iand, s_iconst, s_iload_0_int, s_ireturn, s_istore_0_int, s_isub, s_iushr, s_ldc_w, J_JI_bitCount_0, b_JI_bitCount_0, s_end, true_and, and_true, or_true, true_or, if_true, if_false, ite_true, ite_false, List.map_nil, List.map_cons, List.sum_nil, List.sum_cons, List.nil_append, List.cons_append, Option.toList_some, Option.toList_none, Nat.reduceAdd, Nat.reduceLeDiff, Nat.reduceSub, Nat.zero_le, List.headD_cons, List.tail_cons, List.length_cons, List.length_nil, ne_eq, reduceCtorEq, false_or, or_false, not_false_eq_true, Nat.reduceEqDiff, Nat.reduceLT, am_sw, bI_0, bI_z, bI_y, Classical.not_not, Nat.le_add_left, am_u_row2, am_r_row2, am_u_same, am_u_at, am_r_same, Int32.reduceLT, Int32.reduceLE, Int32.reduceAdd, Int32.reduceSub, Int32.reduceMul, forall_const, not_true_eq_false, implies_true, false_imp_iff, true_imp_iff, i_10, i_01, i_m10, i_m11, eq_self, or_self, false_and, and_false, and_self, am_so_some, am_pv_some, am_pv_none, l_cl_none, l_cl_int, l_cl_ref, l_cl_ra, l_cl_null, l_cl_long, cat_int, cat_ref, cat_long, cat_ra, cat_null, cl_0, cl_1, cl_2, cl_3, cl_4, cl_5, cl_6, cl_7, cl_8, cl_9, cl_10, cl_11, cl_12, cl_13, cl_14, cl_15, cl_16, cl_30, cl_64, cl_500, vl_0_2, vl_0_3, vl_0_4, vl_0_6, vl_0_7, vl_0_12, vl_0_16, vl_0_1400, vl_1_2, vl_1_3, vl_1_4, vl_1_6, vl_1_7, vl_1_12, vl_1_16, vl_1_1400, vl_2_3, vl_2_4, vl_2_6, vl_2_7, vl_2_12, vl_2_16, vl_2_1400, vl_3_4, vl_3_6, vl_3_7, vl_3_12, vl_3_16, vl_3_1400, vl_4_6, vl_4_7, vl_4_12, vl_4_16, vl_4_1400, vl_5_6, vl_5_7, vl_5_12, vl_5_16, vl_5_1400, vl_6_7, vl_6_12, vl_6_16, vl_6_1400, vl_7_12, vl_7_16, vl_8_12, vl_8_16, vl_9_12, vl_9_16, vl_10_12, vl_10_16, vl_11_12, vl_11_16, i_64le_e, i64a_0, i64b_0, i64a_1, i64b_1, i64a_2, i64b_2, i64a_3, i64b_3, i64a_4, i64b_4, i64a_5, i64b_5, i64a_7, i64b_7, i64a_8, i64b_8, i64a_9, i64b_9, i64a_10, i64b_10, i64a_16, i64b_16, i64a_50, i64b_50, i64a_m50, i64b_m50, i64a_60, i64b_60, i64a_99, i64b_99, i64a_100, i64b_100, i64a_500, i64b_500, i64a_600, i64b_600, i64a_1000, i64b_1000, i64a_1000000, i64b_1000000, i64a_m9, i64b_m9]
  simp only [i_us1 (show h < 2147483648 by omega), e1, i_us2 (show bc1 h < 2147483648 by omega), e2, i_us4 (show bc2 (bc1 h) < 2147483648 by omega), e3, i_us8 (show bc3 (bc2 (bc1 h)) < 2147483648 by omega), e4, i_us16 (show bc4 (bc3 (bc2 (bc1 h))) < 2147483648 by omega), e5, e6]
  exact k
end T40
