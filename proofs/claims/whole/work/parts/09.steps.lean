abbrev am_E : Type := Instr × Nat × List Nat × Int32 × Int64
def am_xi (o : Option Value) (P : Int32 → Prop) : Prop := match o with
  | some (.int x) => P x
  | _ => False
def am_xl (o : Option Value) (P : Int64 → Prop) : Prop := match o with
  | some (.long x) => P x
  | _ => False
def am_xr (o : Option Value) (P : Value → Prop) : Prop := match o with
  | some (.ref k) => P (.ref k)
  | some (.retAddr k) => P (.retAddr k)
  | some .null => P .null
  | _ => False
def am_s1 (st : List Value) (P : Int32 → List Value → Prop) : Prop := match st with
  | .int x :: st => P x st
  | _ => False
def am_s2 (st : List Value) (P : Int32 → Int32 → List Value → Prop) : Prop := match st with
  | .int y :: .int x :: st => P x y st
  | _ => False
def am_s1l (st : List Value) (P : Int64 → List Value → Prop) : Prop := match st with
  | .long x :: st => P x st
  | _ => False
def am_s2l (st : List Value) (P : Int64 → Int64 → List Value → Prop) : Prop := match st with
  | .long y :: .long x :: st => P x y st
  | _ => False
def am_sil (st : List Value) (P : Int64 → Int32 → List Value → Prop) : Prop := match st with
  | .int y :: .long x :: st => P x y st
  | _ => False
def am_sr (st : List Value) (P : Value → List Value → Prop) : Prop := match st with
  | .ref k :: st => P (.ref k) st
  | .retAddr k :: st => P (.retAddr k) st
  | .null :: st => P .null st
  | _ => False
def am_sc (st : List Value) (P : Value → List Value → Prop) : Prop := match st with
  | .ref k :: st => P (.ref k) st
  | .retAddr k :: st => P (.retAddr k) st
  | .null :: st => P .null st
  | .int x :: st => P (.int x) st
  | _ => False
def am_is (S : am_S) (k t n : Nat) : Prop := k < S.1 ∧ S.2.1 k = (t, n)
def am_ia (S : am_S) (k t : Nat) : Prop := k < S.1 ∧ (S.2.1 k).1 = t
theorem am_ia.is {S : am_S} {k t : Nat} (h : am_ia S k t) : am_is S k t (S.2.1 k).2 := ⟨h.1, by rw [← h.2]⟩
/-- where a number leads in a row of targets -/
def am_sw (x lo : Int32) : List Nat → (Nat → Prop) → Prop
  | [], _ => True
  | t :: ts, J => (x = lo → J t) ∧ am_sw x (lo + 1) ts J
def am_dn (d : Nat) (P : Nat → Prop) : Prop := match d with
  | 0 => False
  | d + 1 => P d
/-- methods whose outcome is known as a function: what must hold, the answer, the numbers behind it -/
abbrev am_PT : Type := Nat → Option (List Value → am_S → am_M → am_L → Option (Prop × Nat × Option Value × am_M × am_L))
def am_cal (X : am_X) (PT : am_PT) (d y : Nat) (avs : List Value) (S : am_S) (M : am_M) (L : am_L) (K : am_K) : Prop := match (PT y).bind (fun f => f avs S M L) with
  | some o => o.2.1 ≤ d ∧ o.1 ∧ K o.2.2.1 S o.2.2.2.1 o.2.2.2.2
  | none => am_Call X d y avs S M L K
def am_PTok (PT : am_PT) : Prop := ∀ (y : Nat) (avs : List Value) (S : am_S) (M : am_M) (L : am_L) (o : Prop × Nat × Option Value × am_M × am_L), (PT y).bind (fun f => f avs S M L) = some o → o.1 → ∀ (X : am_X) (d : Nat) (K : am_K), K o.2.2.1 S o.2.2.2.1 o.2.2.2.2 → am_Call X (d + o.2.1) y avs S M L K
theorem am_cal_ok {X : am_X} {PT : am_PT} (hPT : am_PTok PT) {d y : Nat} {avs : List Value} {S : am_S} {M : am_M} {L : am_L} {K : am_K} (h : am_cal X PT d y avs S M L K) : am_Call X d y avs S M L K := by
  unfold am_cal at h
  cases hp : (PT y).bind (fun f => f avs S M L) with
  | none => rw [hp] at h; exact h
  | some o =>
    rw [hp] at h
    obtain ⟨h1, h2, h3⟩ := h
    have := hPT y avs S M L o hp h2 X (d - o.2.1) K h3
    rw [show d - o.2.1 + o.2.1 = d by omega] at this
    exact this
theorem am_cal_no {X : am_X} {PT : am_PT} {d y : Nat} {avs : List Value} {S : am_S} {M : am_M} {L : am_L} {K : am_K} (hp : PT y = none) (h : am_Call X d y avs S M L K) : am_cal X PT d y avs S M L K := by
  unfold am_cal
  rw [hp]
  exact h
section ST
variable (X : am_X) (d : Nat) (K : am_K) (PT : am_PT)
abbrev am_C : Type := List (Option Value) → List Value → am_S → am_M → am_L → Nat → Nat → Prop
def am_rk (sp : Bool) (S : am_S) (ci : Nat) (r : Value) : Prop := match r with
  | .ref a => sp = true ∨ ci ≠ 99 ∧ am_is S a 0 ci
  | .retAddr a => sp = false ∧ ci = 99 ∧ 10 ≤ a ∧ a < 27
  | _ => False
def am_r0 (r : Value) : Prop := match r with
  | .ref _ => True
  | _ => False
def am_inv (f : List Nat) (sp : Bool) (ls : List (Option Value)) (st : List Value) (S : am_S) (M : am_M) (L : am_L) (bc bs : Nat) (k : am_C) : Prop := match f with
  | [y', n, mc, ms, ci] => am_sr (st.drop n) (fun r st' => am_rk sp S ci r ∧ (st'.map fun v => v.category).sum ≤ 8 ∧ mc ≤ bc ∧ ms ≤ bs ∧ am_dn d (fun d' => am_cal X PT d' y' (r :: (st.take n).reverse) S M L (fun r S' M' L' => k ls (r.toList ++ st') S' M' L' (bc - mc) (bs - ms))))
  | _ => False
def am_ivs (f : List Nat) (ls : List (Option Value)) (st : List Value) (S : am_S) (M : am_M) (L : am_L) (bc bs : Nat) (k : am_C) : Prop := match f with
  | [y', n, mc, ms] => n ≤ st.length ∧ ((st.drop n).map fun v => v.category).sum ≤ 8 ∧ mc ≤ bc ∧ ms ≤ bs ∧ am_dn d (fun d' => am_cal X PT d' y' (st.take n).reverse S M L (fun r S' M' L' => k ls (r.toList ++ st.drop n) S' M' L' (bc - mc) (bs - ms)))
  | [0] => am_s2 st (fun x y9 st => 1 ≤ d ∧ (st.map fun v => v.category).sum ≤ 8 ∧ k ls (.int (if x < y9 then y9 else x) :: st) S M L bc bs)
  | [1] => am_s2 st (fun x y9 st => 1 ≤ d ∧ (st.map fun v => v.category).sum ≤ 8 ∧ k ls (.int (if y9 < x then y9 else x) :: st) S M L bc bs)
  | [2] => am_s1 st (fun x st => 1 ≤ d ∧ (st.map fun v => v.category).sum ≤ 8 ∧ k ls (.int (if 0 ≤ x then x else 0 - x) :: st) S M L bc bs)
  | [3] => am_s2l st (fun x y9 st => 1 ≤ d ∧ (st.map fun v => v.category).sum ≤ 8 ∧ k ls (.long (if y9 < x then x else y9) :: st) S M L bc bs)
  | [4] => am_s2l st (fun x y9 st => 1 ≤ d ∧ (st.map fun v => v.category).sum ≤ 8 ∧ k ls (.long (if y9 < x then y9 else x) :: st) S M L bc bs)
  | [5] => (match st with
      | .int n :: .int dp :: .ref b :: .int sp :: .ref a :: st => am_ia S a 1 ∧ am_ia S b 1 ∧ a ≠ b ∧ (¬ sp < 0 ∧ ¬ dp < 0 ∧ ¬ n < 0) ∧ (sp.toNatClampNeg + n.toNatClampNeg ≤ (S.2.1 a).2 ∧ dp.toNatClampNeg + n.toNatClampNeg ≤ (S.2.1 b).2) ∧ 1 ≤ d ∧ (st.map fun v => v.category).sum ≤ 8 ∧ k ls st S (am_r M b (va_cpy (M a) (M b) sp.toNatClampNeg dp.toNatClampNeg n.toNatClampNeg)) L bc bs
      | _ => False)
  | _ => False
def am_st (e : am_E) (pc : Nat) (ls : List (Option Value)) (st : List Value) (S : am_S) (M : am_M) (L : am_L) (bc bs : Nat) (k : am_C) (J : Nat → am_C) : Prop := match e with
  | (i, n, f, z, zl) => match i with
    | .iload_n j => am_xi (l_get ls (j : Nat)) (fun v => k ls (.int v :: st) S M L bc bs)
    | .iload j => am_xi (l_get ls j) (fun v => k ls (.int v :: st) S M L bc bs)
    | .lload_n j => am_xl (l_get ls (j : Nat)) (fun v => k ls (.long v :: st) S M L bc bs)
    | .lload j => am_xl (l_get ls j) (fun v => k ls (.long v :: st) S M L bc bs)
    | .aload_n j => am_xr (l_get ls (j : Nat)) (fun v => k ls (v :: st) S M L bc bs)
    | .aload j => am_xr (l_get ls j) (fun v => k ls (v :: st) S M L bc bs)
    | .istore_n j => am_s1 st (fun x st => k (l_st ls (j : Nat) (.int x)) st S M L bc bs)
    | .astore_n j => am_sr st (fun v st => k (l_st ls (j : Nat) v) st S M L bc bs)
    | .lstore_n j => am_s1l st (fun x st => k (l_st2 ls (j : Nat) (.long x)) st S M L bc bs)
    | .istore j => am_s1 st (fun x st => k (l_st ls j (.int x)) st S M L bc bs)
    | .astore j => am_sr st (fun v st => k (l_st ls j v) st S M L bc bs)
    | .lstore j => am_s1l st (fun x st => k (l_st2 ls j (.long x)) st S M L bc bs)
    | .iinc j m => am_xi (l_get ls j) (fun x => k (l_st ls j (.int (x + z))) st S M L bc bs)
    | .iconst m => k ls (.int z :: st) S M L bc bs
    | .bipush m => k ls (.int z :: st) S M L bc bs
    | .sipush m => k ls (.int z :: st) S M L bc bs
    | .lconst m => k ls (.long zl :: st) S M L bc bs
    | .ldc m => match f with | [] => k ls (.int z :: st) S M L bc bs | [s9] => k ls (.retAddr (10 + s9) :: st) S M L bc bs | _ => False
    | .ldc_w m => k ls (.int z :: st) S M L bc bs
    | .ldc2_w m => k ls (.long zl :: st) S M L bc bs
    | .iadd => am_s2 st (fun x y9 st => k ls (.int (x + y9) :: st) S M L bc bs)
    | .isub => am_s2 st (fun x y9 st => k ls (.int (x - y9) :: st) S M L bc bs)
    | .imul => am_s2 st (fun x y9 st => k ls (.int (x * y9) :: st) S M L bc bs)
    | .iand => am_s2 st (fun x y9 st => k ls (.int (x &&& y9) :: st) S M L bc bs)
    | .ior => am_s2 st (fun x y9 st => k ls (.int (x ||| y9) :: st) S M L bc bs)
    | .ixor => am_s2 st (fun x y9 st => k ls (.int (x ^^^ y9) :: st) S M L bc bs)
    | .ishl => am_s2 st (fun x y9 st => k ls (.int (x <<< (y9 &&& 31)) :: st) S M L bc bs)
    | .ishr => am_s2 st (fun x y9 st => k ls (.int (x >>> (y9 &&& 31)) :: st) S M L bc bs)
    | .iushr => am_s2 st (fun x y9 st => k ls (.int ((x.toUInt32 >>> (y9.toUInt32 &&& Int32.toUInt32 31)).toInt32) :: st) S M L bc bs)
    | .idiv => am_s2 st (fun x y9 st => ¬ y9 = 0 ∧ k ls (.int (x / y9) :: st) S M L bc bs)
    | .irem => am_s2 st (fun x y9 st => ¬ y9 = 0 ∧ k ls (.int (x - x / y9 * y9) :: st) S M L bc bs)
    | .ladd => am_s2l st (fun x y9 st => k ls (.long (x + y9) :: st) S M L bc bs)
    | .lsub => am_s2l st (fun x y9 st => k ls (.long (x - y9) :: st) S M L bc bs)
    | .lmul => am_s2l st (fun x y9 st => k ls (.long (x * y9) :: st) S M L bc bs)
    | .land => am_s2l st (fun x y9 st => k ls (.long (x &&& y9) :: st) S M L bc bs)
    | .ldiv => am_s2l st (fun x y9 st => ¬ y9 = 0 ∧ k ls (.long (x / y9) :: st) S M L bc bs)
    | .lrem => am_s2l st (fun x y9 st => ¬ y9 = 0 ∧ k ls (.long (x - x / y9 * y9) :: st) S M L bc bs)
    | .lshl => am_sil st (fun x y9 st => k ls (.long (x <<< (y9.toInt64 &&& 63)) :: st) S M L bc bs)
    | .lshr => am_sil st (fun x y9 st => k ls (.long (x >>> (y9.toInt64 &&& 63)) :: st) S M L bc bs)
    | .ineg => am_s1 st (fun x st => k ls (.int (0 - x) :: st) S M L bc bs)
    | .i2l => am_s1 st (fun x st => k ls (.long x.toInt64 :: st) S M L bc bs)
    | .i2b => am_s1 st (fun x st => k ls (.int x.toInt8.toInt32 :: st) S M L bc bs)
    | .i2c => am_s1 st (fun x st => k ls (.int (x.toUInt32 % 65536).toInt32 :: st) S M L bc bs)
    | .l2i => am_s1l st (fun x st => k ls (.int x.toInt32 :: st) S M L bc bs)
    | .lcmp => am_s2l st (fun x y9 st => k ls (.int (lg_cmp x y9) :: st) S M L bc bs)
    | .dup => am_sc st (fun v st => k ls (v :: v :: st) S M L bc bs)
    | .dup2 => am_sc st (fun v st => am_sc st (fun w st => k ls (v :: w :: v :: w :: st) S M L bc bs))
    | .pop => am_sc st (fun v st => k ls st S M L bc bs)
    | .goto off => J (f.headD 0) ls st S M L bc bs
    | .ifCond cd off => am_s1 st (fun x st => match cd with
      | .eq => (x = 0 → J (f.headD 0) ls st S M L bc bs) ∧ (¬ x = 0 → k ls st S M L bc bs)
      | .ne => (¬ x = 0 → J (f.headD 0) ls st S M L bc bs) ∧ (x = 0 → k ls st S M L bc bs)
      | .lt => (x < 0 → J (f.headD 0) ls st S M L bc bs) ∧ (¬ x < 0 → k ls st S M L bc bs)
      | .ge => (0 ≤ x → J (f.headD 0) ls st S M L bc bs) ∧ (¬ 0 ≤ x → k ls st S M L bc bs)
      | .gt => (0 < x → J (f.headD 0) ls st S M L bc bs) ∧ (¬ 0 < x → k ls st S M L bc bs)
      | .le => (x ≤ 0 → J (f.headD 0) ls st S M L bc bs) ∧ (¬ x ≤ 0 → k ls st S M L bc bs))
    | .if_icmp cd off => am_s2 st (fun x y9 st => match cd with
      | .eq => (x = y9 → J (f.headD 0) ls st S M L bc bs) ∧ (¬ x = y9 → k ls st S M L bc bs)
      | .ne => (¬ x = y9 → J (f.headD 0) ls st S M L bc bs) ∧ (x = y9 → k ls st S M L bc bs)
      | .lt => (x < y9 → J (f.headD 0) ls st S M L bc bs) ∧ (¬ x < y9 → k ls st S M L bc bs)
      | .ge => (y9 ≤ x → J (f.headD 0) ls st S M L bc bs) ∧ (¬ y9 ≤ x → k ls st S M L bc bs)
      | .gt => (y9 < x → J (f.headD 0) ls st S M L bc bs) ∧ (¬ y9 < x → k ls st S M L bc bs)
      | .le => (x ≤ y9 → J (f.headD 0) ls st S M L bc bs) ∧ (¬ x ≤ y9 → k ls st S M L bc bs))
    | .ifnonnull off => match st with | .ref _ :: st => J (f.headD 0) ls st S M L bc bs | .null :: st => k ls st S M L bc bs | _ => False
    | .ifnull off => match st with | .ref _ :: st => k ls st S M L bc bs | .null :: st => J (f.headD 0) ls st S M L bc bs | _ => False
    | .tableswitch dflt lo hi offs => am_s1 st (fun x st => ((x < z ∨ z + Int32.ofNat f.tail.length ≤ x) → J (f.headD 0) ls st S M L bc bs) ∧ am_sw x z f.tail (fun t => J t ls st S M L bc bs))
    | .ireturn => match st with | [.int v] => (match f with | [] => K (some (.int v)) S M L | [1] => (v = 0 ∨ v = 1) ∧ K (some (.int v)) S M L | [2] => narrow .char (.int v) = .int v ∧ K (some (.int v)) S M L | [3] => narrow .byte (.int v) = .int v ∧ K (some (.int v)) S M L | _ => False) | _ => False
    | .lreturn => match st with | [.long v] => K (some (.long v)) S M L | _ => False
    | .return_ => st = [] ∧ K none S M L
    | .getfield m => match st, f with | .ref a :: st, [ci, j, t] => am_is S a 0 ci ∧ k ls (am_gv S M L a j t :: st) S M L bc bs | .retAddr a :: st, [0] => (10 ≤ a ∧ a < 27) ∧ k ls (.int 0 :: st) S M L bc bs | .retAddr a :: st, [1] => (10 ≤ a ∧ a < 27) ∧ k ls (.retAddr (a + 30) :: st) S M L bc bs | _, _ => False
    | .putfield m => match st, f with | .int x :: .ref a :: st, [ci, j, 0] => am_is S a 0 ci ∧ k ls st S (am_u M a j x) L bc bs | .int x :: .ref a :: st, [ci, j, 3] => am_is S a 0 ci ∧ (x = 0 ∨ x = 1) ∧ k ls st S (am_u M a j x) L bc bs | .long x :: .ref a :: st, [ci, j, 1] => am_is S a 0 ci ∧ k ls st S M (am_u L a j x) bc bs | .ref r :: .ref a :: st, [ci, j, 2] => am_is S a 0 ci ∧ k ls st (S.1, S.2.1, am_u S.2.2 a j (some r)) M L bc bs | .null :: .ref a :: st, [ci, j, 2] => am_is S a 0 ci ∧ k ls st (S.1, S.2.1, am_u S.2.2 a j none) M L bc bs | _, _ => False
    | .getstatic m => match f with | [1] => k ls (.retAddr 1 :: st) S M L bc bs | [2] => k ls (.retAddr 2 :: st) S M L bc bs | [3] => k ls (.retAddr 3 :: st) S M L bc bs | [0] => k ls (.int 1 :: st) S M L bc bs | _ => False
    | .iaload => match st with | .int i :: .ref a :: st => am_ia S a 1 ∧ vp_in i (S.2.1 a).2 ∧ k ls (.int (M a i.toNatClampNeg) :: st) S M L bc bs | .int i :: .retAddr 0 :: st => vp_in i X.1 ∧ k ls (.int (X.2 i.toNatClampNeg) :: st) S M L bc bs | .int i :: .retAddr 1 :: st => vp_in i 4 ∧ k ls (.int ((am_sta 1).getD i.toNatClampNeg 0) :: st) S M L bc bs | .int i :: .retAddr 2 :: st => vp_in i 3 ∧ k ls (.int ((am_sta 2).getD i.toNatClampNeg 0) :: st) S M L bc bs | _ => False
    | .baload => match st with | .int i :: .ref a :: st => (am_ia S a 2 ∨ am_ia S a 3) ∧ vp_in i (S.2.1 a).2 ∧ k ls (.int (M a i.toNatClampNeg) :: st) S M L bc bs | .int i :: .retAddr a :: st => (40 ≤ a ∧ a < 57) ∧ vp_in i (am_lens.getD (a - 40) 0) ∧ k ls (.int ((am_byts.getD (a - 40) []).getD i.toNatClampNeg 0) :: st) S M L bc bs | _ => False
    | .laload => match st with | .int i :: .ref a :: st => am_ia S a 4 ∧ vp_in i (S.2.1 a).2 ∧ k ls (.long (L a i.toNatClampNeg) :: st) S M L bc bs | _ => False
    | .aaload => match st with | .int i :: .ref a :: st => vp_in i (S.2.1 a).2 ∧ (if (S.2.1 a).1 = 5 then a < S.1 ∧ (match S.2.2 a i.toNatClampNeg with | some r => r ≠ 3 ∧ k ls (.retAddr r :: st) S M L bc bs | none => False) else (am_ia S a 6 ∨ am_ia S a 7) ∧ k ls (am_pv (S.2.2 a i.toNatClampNeg) :: st) S M L bc bs) | _ => False
    | .iastore => match st with | .int x :: .int i :: .ref a :: st => am_ia S a 1 ∧ vp_in i (S.2.1 a).2 ∧ k ls st S (am_u M a i.toNatClampNeg x) L bc bs | _ => False
    | .bastore => match st with | .int x :: .int i :: .ref a :: st => vp_in i (S.2.1 a).2 ∧ (if (S.2.1 a).1 = 2 then a < S.1 ∧ k ls st S (am_u M a i.toNatClampNeg (vp_nar .byte x)) L bc bs else am_ia S a 3 ∧ k ls st S (am_u M a i.toNatClampNeg (vp_nar .boolean x)) L bc bs) | _ => False
    | .lastore => match st with | .long x :: .int i :: .ref a :: st => am_ia S a 4 ∧ vp_in i (S.2.1 a).2 ∧ k ls st S M (am_u L a i.toNatClampNeg x) bc bs | _ => False
    | .aastore => match st with | .ref r :: .int i :: .ref a :: st => am_ia S a 7 ∧ am_is S r 0 3 ∧ vp_in i (S.2.1 a).2 ∧ k ls st (S.1, S.2.1, am_u S.2.2 a i.toNatClampNeg (some r)) M L bc bs | .retAddr r :: .int i :: .ref a :: st => am_ia S a 5 ∧ (10 ≤ r ∧ r < 27) ∧ vp_in i (S.2.1 a).2 ∧ k ls st (S.1, S.2.1, am_u S.2.2 a i.toNatClampNeg (some r)) M L bc bs | _ => False
    | .arraylength => match st with | .ref a :: st => (a < S.1 ∧ 0 < (S.2.1 a).1 ∧ (S.2.1 a).1 ≤ 7) ∧ k ls (.int (Int32.ofNat (S.2.1 a).2) :: st) S M L bc bs | .retAddr 0 :: st => k ls (.int (Int32.ofNat X.1) :: st) S M L bc bs | .retAddr 1 :: st => k ls (.int 4 :: st) S M L bc bs | .retAddr 2 :: st => k ls (.int 3 :: st) S M L bc bs | .retAddr a :: st => (40 ≤ a ∧ a < 57) ∧ k ls (.int (Int32.ofNat (am_lens.getD (a - 40) 0)) :: st) S M L bc bs | _ => False
    | .newarray at9 => match st with | .int c :: st => (¬ c < 0 ∧ c.toNatClampNeg ≤ 67108864) ∧ 1 ≤ bc ∧ c.toNatClampNeg ≤ bs ∧ k ls (.ref S.1 :: st) (am_nS S (f.headD 0) c.toNatClampNeg) (am_nM S M) (am_nL S L) (bc - 1) (bs - c.toNatClampNeg) | _ => False
    | .anewarray m => match st with | .int c :: st => (¬ c < 0 ∧ c.toNatClampNeg ≤ 67108864) ∧ 1 ≤ bc ∧ c.toNatClampNeg ≤ bs ∧ k ls (.ref S.1 :: st) (am_nS S (f.headD 0) c.toNatClampNeg) (am_nM S M) (am_nL S L) (bc - 1) (bs - c.toNatClampNeg) | _ => False
    | .multianewarray m dm => match st with | .int c2 :: .int c1 :: st => (¬ c1 < 0 ∧ ¬ c2 < 0 ∧ c1.toNatClampNeg ≤ 1000 ∧ c2.toNatClampNeg ≤ 100000) ∧ 1 + c1.toNatClampNeg ≤ bc ∧ c1.toNatClampNeg + c1.toNatClampNeg * c2.toNatClampNeg ≤ bs ∧ k ls (.ref S.1 :: st) (am_mS S c1.toNatClampNeg c2.toNatClampNeg) (am_mM S c1.toNatClampNeg M) L (bc - (1 + c1.toNatClampNeg)) (bs - (c1.toNatClampNeg + c1.toNatClampNeg * c2.toNatClampNeg)) | _ => False
    | .new m => 1 ≤ bc ∧ am_nf (f.headD 99) ≤ bs ∧ k ls (.ref S.1 :: st) (am_nS S 0 (f.headD 99)) (am_nM S M) (am_nL S L) (bc - 1) (bs - am_nf (f.headD 99))
    | .invokevirtual m => am_inv X d PT f false ls st S M L bc bs k
    | .invokestatic m => am_ivs X d PT f ls st S M L bc bs k
    | .invokespecial m => match f with | [] => am_sr st (fun r st => am_r0 r ∧ 1 ≤ d ∧ (st.map fun v => v.category).sum ≤ 8 ∧ k ls st S M L bc bs) | f => am_inv X d PT f true ls st S M L bc bs k
    | _ => False
def am_I (J : Nat → am_C) : List am_E → Nat → am_C
  | [], pc => J pc
  | e :: is, pc => fun ls st S M L bc bs => am_st X d K PT e pc ls st S M L bc bs (am_I J is (pc + e.2.1)) J
/-- what is laid down at a place, so far as that is; elsewhere the judgement itself -/
def am_J (y : Nat) (cm : List (Nat × List am_E)) : Nat → Nat → am_C
  | 0, t => fun ls st S M L bc bs => am_WP X d y t ls st S M L bc bs K
  | n + 1, t => match cm.lookup t with
    | none => fun ls st S M L bc bs => am_WP X d y t ls st S M L bc bs K
    | some is => am_I X d K PT (am_J y cm n) is t
end ST
def am_pfc (o : Nat) (q : am_Q) (m ci j : Nat) (tc : Bool) : Bool := ((am_fl.contains (o, m, ci, j) && decide (j < am_nf ci)) && (decide ((am_F ci j).2.2.2 = false) || (decide ((am_F ci j).2.2.2 = true) && (decide (q.1.name = "<init>") && decide ((am_F ci j).1 = q.1.cls))))) && tc
def am_cfc (y n mc ms kd : Nat) (b : am_Q → Bool) : Bool := match am_mt[y]? with
  | none => false
  | some q => decide (y ≠ 262) && (decide (q.2.2.2.2.1 = kd) && (decide (n = q.2.2.2.2.2.1) && (decide (mc = q.2.2.2.2.2.2.1) && (decide (ms = q.2.2.2.2.2.2.2) && b q))))
def am_swc (pc : Nat) (dflt lo hi : Int) (offs : Array Int) (f : List Nat) (z : Int32) : Bool := decide ((pc : Int) + dflt = ((f.headD 0 : Nat) : Int)) && (decide (lo = z.toInt) && (decide (hi = lo + f.tail.length - 1) && (decide (offs.toList = f.tail.map (fun (t : Nat) => (t : Int) - (pc : Int))) && (decide (z.toInt + f.tail.length < 2147483648) && decide (f.tail.length < 2147483648)))))
def am_ck (o : Nat) (q : am_Q) (pc : Nat) (e : am_E) : Bool := match e with
  | (i, n, f, z, zl) => decide (decode q.2.1 pc = .ok (i, n)) && (match i with
    | .iload_n j => decide (n = 1)
    | .iload j => decide (n = 2)
    | .lload_n j => decide (n = 1)
    | .lload j => decide (n = 2)
    | .aload_n j => decide (n = 1)
    | .aload j => decide (n = 2)
    | .istore_n j => decide (n = 1) && decide ((j : Nat) < q.2.2.1)
    | .astore_n j => decide (n = 1) && decide ((j : Nat) < q.2.2.1)
    | .lstore_n j => decide (n = 1) && decide ((j : Nat) + 1 < q.2.2.1)
    | .istore j => decide (n = 2) && decide (j < q.2.2.1)
    | .astore j => decide (n = 2) && decide (j < q.2.2.1)
    | .lstore j => decide (n = 2) && decide (j + 1 < q.2.2.1)
    | .iinc j m => decide (n = 3) && (decide (j < q.2.2.1) && decide (Int32.ofInt m = z))
    | .iconst m => decide (n = 1) && decide (Int32.ofInt m = z)
    | .bipush m => decide (n = 2) && decide ((Int8.ofInt m).toInt32 = z)
    | .sipush m => decide (n = 3) && decide ((Int16.ofInt m).toInt32 = z)
    | .lconst m => decide (n = 1) && decide (Int64.ofNat (m : Nat) = zl)
    | .ldc m => decide (n = 2) && (match f with | [] => am_kl.contains (o, m, z) | [s9] => am_strs.any (fun w => w.1 == am_cn o && w.2.1 == m && w.2.2.2 == s9) | _ => false)
    | .ldc_w m => decide (n = 3) && am_kl.contains (o, m, z)
    | .ldc2_w m => decide (n = 3) && am_jl.contains (o, m, zl)
    | .iadd => decide (n = 1)
    | .isub => decide (n = 1)
    | .imul => decide (n = 1)
    | .iand => decide (n = 1)
    | .ior => decide (n = 1)
    | .ixor => decide (n = 1)
    | .ishl => decide (n = 1)
    | .ishr => decide (n = 1)
    | .iushr => decide (n = 1)
    | .idiv => decide (n = 1)
    | .irem => decide (n = 1)
    | .ladd => decide (n = 1)
    | .lsub => decide (n = 1)
    | .lmul => decide (n = 1)
    | .land => decide (n = 1)
    | .ldiv => decide (n = 1)
    | .lrem => decide (n = 1)
    | .lshl => decide (n = 1)
    | .lshr => decide (n = 1)
    | .ineg => decide (n = 1)
    | .i2l => decide (n = 1)
    | .i2b => decide (n = 1)
    | .i2c => decide (n = 1)
    | .l2i => decide (n = 1)
    | .lcmp => decide (n = 1)
    | .dup => decide (n = 1)
    | .dup2 => decide (n = 1)
    | .pop => decide (n = 1)
    | .goto off => decide (n = 3) && decide ((pc : Int) + off = ((f.headD 0 : Nat) : Int))
    | .ifCond cd off => decide (n = 3) && decide ((pc : Int) + off = ((f.headD 0 : Nat) : Int))
    | .if_icmp cd off => decide (n = 3) && decide ((pc : Int) + off = ((f.headD 0 : Nat) : Int))
    | .ifnonnull off => decide (n = 3) && decide ((pc : Int) + off = ((f.headD 0 : Nat) : Int))
    | .ifnull off => decide (n = 3) && decide ((pc : Int) + off = ((f.headD 0 : Nat) : Int))
    | .tableswitch dflt lo hi offs => am_swc pc dflt lo hi offs f z
    | .ireturn => decide (n = 1) && (match f with | [] => decide (q.2.2.2.1 = some .int) | [1] => decide (q.2.2.2.1 = some .boolean) | [2] => decide (q.2.2.2.1 = some .char) | [3] => decide (q.2.2.2.1 = some .byte) | _ => false)
    | .lreturn => decide (n = 1) && decide (q.2.2.2.1 = some .long)
    | .return_ => decide (n = 1) && decide (q.2.2.2.1 = none)
    | .getfield m => decide (n = 3) && (match f with | [ci, j, t] => (am_fl.contains (o, m, ci, j) && decide (j < am_nf ci)) && decide (am_tk (am_ty ci j) = t) | [0] => am_sf.contains (o, m, 0) | [1] => am_sf.contains (o, m, 1) | _ => false)
    | .putfield m => decide (n = 3) && (match f with | [ci, j, 0] => am_pfc o q m ci j (decide (am_ty ci j = .int)) | [ci, j, 3] => am_pfc o q m ci j (decide (am_ty ci j = .boolean)) | [ci, j, 1] => am_pfc o q m ci j (decide (am_ty ci j = .long)) | [ci, j, 2] => am_pfc o q m ci j (decide (am_tk (am_ty ci j) = 2)) | _ => false)
    | .getstatic m => decide (n = 3) && (match f with | [1] => am_nest.contains (Cond.fieldLinkNest (am_cn o) m "LookTimes" "AFTER_W" "[I" "LookTimes") | [2] => am_nest.contains (Cond.fieldLinkNest (am_cn o) m "LookTimes" "AFTER_MOST" "[I" "LookTimes") | [3] => am_sf.contains (o, m, 3) | [0] => am_sf.contains (o, m, 2) | _ => false)
    | .iaload => decide (n = 1)
    | .baload => decide (n = 1)
    | .laload => decide (n = 1)
    | .aaload => decide (n = 1)
    | .iastore => decide (n = 1)
    | .bastore => decide (n = 1)
    | .lastore => decide (n = 1)
    | .aastore => decide (n = 1)
    | .arraylength => decide (n = 1)
    | .newarray at9 => decide (n = 2) && (((decide (at9 = .int) && decide (f.headD 0 = 1) || decide (at9 = .byte) && decide (f.headD 0 = 2)) || decide (at9 = .boolean) && decide (f.headD 0 = 3)) || decide (at9 = .long) && decide (f.headD 0 = 4))
    | .anewarray m => decide (n = 3) && (decide (f.headD 0 = 5) && am_cc.contains (o, m, 15) || decide (f.headD 0 = 7) && am_cc.contains (o, m, 3))
    | .multianewarray m dm => decide (n = 4) && (decide (dm = 2) && am_cc.contains (o, m, 98))
    | .new m => decide (n = 3) && (am_cc.contains (o, m, f.headD 99) && decide (f.headD 99 < vwCl.length))
    | .invokevirtual m => decide (n = 3) && (match f with | [y9, n9, mc, ms, ci] => am_cfc y9 n9 mc ms 0 (fun q9 => am_ml.contains (o, m, y9) && (match vwCl[ci]? with | some r => decide (r.1 = q9.1.cls) | none => decide (ci = 99) && decide ("java/lang/String" = q9.1.cls))) | _ => false)
    | .invokestatic m => decide (n = 3) && (match f with | [y9, n9, mc, ms] => am_cfc y9 n9 mc ms 1 (fun _ => am_ml.contains (o, m, y9) || am_nl.contains (o, m, y9)) | [p9] => am_pl.contains (o, m, p9) | _ => false)
    | .invokespecial m => decide (n = 3) && (match f with | [] => am_ol.contains (o, m) | [y9, n9, mc, ms, _] => am_cfc y9 n9 mc ms 2 (fun _ => am_ml.contains (o, m, y9) || am_nl.contains (o, m, y9)) | _ => false)
    | _ => false)
def am_cks (o : Nat) (q : am_Q) : List am_E → Nat → Bool
  | [], _ => true
  | e :: is, pc => am_ck o q pc e && am_cks o q is (pc + e.2.1)
theorem am_b1 {n m : Nat} (h : decide (n = m) = true) : n = m := of_decide_eq_true h
theorem am_b2 {n m : Nat} {b : Bool} (h : (decide (n = m) && b) = true) : n = m ∧ b = true := by
  rw [Bool.and_eq_true] at h
  exact ⟨of_decide_eq_true h.1, h.2⟩
theorem am_b3 {n m : Nat} {a b : Bool} (h : (decide (n = m) && (a && b)) = true) : n = m ∧ a = true ∧ b = true := by
  rw [Bool.and_eq_true, Bool.and_eq_true] at h
  exact ⟨of_decide_eq_true h.1, h.2⟩
theorem am_on {y : Nat} {q : am_Q} (hq : am_mt[y]? = some q) {P : am_Q → Prop} (h : P q) : ∀ q0, am_mt[y]? = some q0 → P q0 := fun q0 h0 => by
  cases Option.some.inj (h0.symm.trans hq)
  exact h
theorem am_aq {y pc n : Nat} {i : Instr} {q : am_Q} (hq : am_mt[y]? = some q) (hd : decode q.2.1 pc = .ok (i, n)) : am_at y pc i n := am_on hq (P := fun q => decode q.2.1 pc = .ok (i, n)) hd
theorem am_xi_of {o : Option Value} {P : Int32 → Prop} (h : am_xi o P) : ∃ x, o = some (.int x) ∧ P x := by
  match o, h with
  | some (.int x), h => exact ⟨x, rfl, h⟩
theorem am_xl_of {o : Option Value} {P : Int64 → Prop} (h : am_xl o P) : ∃ x, o = some (.long x) ∧ P x := by
  match o, h with
  | some (.long x), h => exact ⟨x, rfl, h⟩
theorem am_xr_of {o : Option Value} {P : Value → Prop} (h : am_xr o P) : ∃ v, (am_rf v ∧ o = some v) ∧ P v := by
  match o, h with
  | some (.ref x), h => exact ⟨.ref x, ⟨trivial, rfl⟩, h⟩
  | some (.retAddr x), h => exact ⟨.retAddr x, ⟨trivial, rfl⟩, h⟩
  | some .null, h => exact ⟨.null, ⟨trivial, rfl⟩, h⟩
theorem am_s1_of {st : List Value} {P : Int32 → List Value → Prop} (h : am_s1 st P) : ∃ x st', st = .int x :: st' ∧ P x st' := by
  match st, h with
  | .int x :: st, h => exact ⟨x, st, rfl, h⟩
theorem am_s2_of {st : List Value} {P : Int32 → Int32 → List Value → Prop} (h : am_s2 st P) : ∃ x y st', st = .int y :: .int x :: st' ∧ P x y st' := by
  match st, h with
  | .int y :: .int x :: st, h => exact ⟨x, y, st, rfl, h⟩
theorem am_s1l_of {st : List Value} {P : Int64 → List Value → Prop} (h : am_s1l st P) : ∃ x st', st = .long x :: st' ∧ P x st' := by
  match st, h with
  | .long x :: st, h => exact ⟨x, st, rfl, h⟩
theorem am_s2l_of {st : List Value} {P : Int64 → Int64 → List Value → Prop} (h : am_s2l st P) : ∃ x y st', st = .long y :: .long x :: st' ∧ P x y st' := by
  match st, h with
  | .long y :: .long x :: st, h => exact ⟨x, y, st, rfl, h⟩
theorem am_sil_of {st : List Value} {P : Int64 → Int32 → List Value → Prop} (h : am_sil st P) : ∃ x y st', st = .int y :: .long x :: st' ∧ P x y st' := by
  match st, h with
  | .int y :: .long x :: st, h => exact ⟨x, y, st, rfl, h⟩
theorem am_sr_of {st : List Value} {P : Value → List Value → Prop} (h : am_sr st P) : ∃ v st', st = v :: st' ∧ am_rf v ∧ P v st' := by
  match st, h with
  | .ref x :: st, h => exact ⟨.ref x, st, rfl, trivial, h⟩
  | .retAddr x :: st, h => exact ⟨.retAddr x, st, rfl, trivial, h⟩
  | .null :: st, h => exact ⟨.null, st, rfl, trivial, h⟩
theorem am_sc_of {st : List Value} {P : Value → List Value → Prop} (h : am_sc st P) : ∃ v st', st = v :: st' ∧ v.category = 1 ∧ P v st' := by
  match st, h with
  | .ref x :: st, h => exact ⟨_, st, rfl, rfl, h⟩
  | .retAddr x :: st, h => exact ⟨_, st, rfl, rfl, h⟩
  | .null :: st, h => exact ⟨_, st, rfl, rfl, h⟩
  | .int x :: st, h => exact ⟨_, st, rfl, rfl, h⟩
theorem am_dn_of {d : Nat} {P : Nat → Prop} (h : am_dn d P) : ∃ d', d = d' + 1 ∧ P d' := by
  match d, h with
  | d + 1, h => exact ⟨d, rfl, h⟩
theorem am_WP_mono {X : am_X} {d y pc : Nat} {ls : List (Option Value)} {st : List Value} {S : am_S} {M : am_M} {L : am_L} {bc bs : Nat} {K K' : am_K} (h : am_WP X d y pc ls st S M L bc bs K) (hk : ∀ r S M L, K r S M L → K' r S M L) : am_WP X d y pc ls st S M L bc bs K' := by
  intro q p l e R s m args below meth c H locs cells slots Q G A ad lsm mc ms hq F Fo Wd Lo so Rm Re
  exact h q p l e R s m args below meth c H locs cells slots Q G A ad lsm mc ms hq F Fo Wd Lo so Rm (fun r S' M' L' ad' H' locs' pc' ls' k1 => Re r S' M' L' ad' H' locs' pc' ls' (hk _ _ _ _ k1))
theorem am_Call_mono {X : am_X} {d y : Nat} {avs : List Value} {S : am_S} {M : am_M} {L : am_L} {K K' : am_K} (h : am_Call X d y avs S M L K) (hk : ∀ r S M L, K r S M L → K' r S M L) : am_Call X d y avs S M L K' := by
  obtain ⟨q, h1, h2, h3⟩ := h
  exact ⟨q, h1, h2, am_WP_mono h3 hk⟩
theorem am_pf {o y m ci j : Nat} {q : am_Q} {tc : Bool} (hq : am_mt[y]? = some q) (ho : am_cn o = q.1.cls) (h : am_pfc o q m ci j tc = true) : (∀ q, am_mt[y]? = some q → Cond.fieldLink q.1.cls m (am_F ci j).1 (am_F ci j).2.1 (am_F ci j).2.2.1 ∈ am_gt) ∧ j < am_nf ci ∧ ((am_F ci j).2.2.2 = false ∨ ((am_F ci j).2.2.2 = true ∧ ∀ q, am_mt[y]? = some q → q.1.name = "<init>" ∧ (am_F ci j).1 = q.1.cls)) ∧ tc = true := by
  simp only [am_pfc, Bool.and_eq_true, Bool.or_eq_true, decide_eq_true_eq] at h
  obtain ⟨⟨⟨h1, h2⟩, h3⟩, h4⟩ := h
  refine ⟨am_on hq (P := fun q => Cond.fieldLink q.1.cls m (am_F ci j).1 (am_F ci j).2.1 (am_F ci j).2.2.1 ∈ am_gt) (by rw [← ho]; exact am_fl_ok _ (List.contains_iff_mem.mp h1)), h2, ?_, h4⟩
  rcases h3 with h3 | ⟨h3, h5⟩
  · exact Or.inl h3
  · exact Or.inr ⟨h3, am_on hq (P := fun q => q.1.name = "<init>" ∧ (am_F ci j).1 = q.1.cls) h5⟩
theorem am_cf {y n mc ms kd : Nat} {b : am_Q → Bool} (h : am_cfc y n mc ms kd b = true) : ∃ q : am_Q, am_mt[y]? = some q ∧ am_mok q ∧ q.2.2.2.2.1 = kd ∧ n = q.2.2.2.2.2.1 ∧ mc = q.2.2.2.2.2.2.1 ∧ ms = q.2.2.2.2.2.2.2 ∧ b q = true := by
  unfold am_cfc at h
  cases hq : am_mt[y]? with
  | none => rw [hq] at h; cases h
  | some q =>
    rw [hq] at h
    simp only [Bool.and_eq_true, decide_eq_true_eq] at h
    obtain ⟨h0, h1, h2, h3, h4, h5⟩ := h
    exact ⟨q, rfl, am_moks y q h0 hq, h1, h2, h3, h4, h5⟩
theorem am_mlq {o y y' m : Nat} {q q' : am_Q} (hq : am_mt[y]? = some q) (ho : am_cn o = q.1.cls) (hq' : am_mt[y']? = some q') (h : am_ml.contains (o, m, y') = true) : ∀ q0, am_mt[y]? = some q0 → Cond.methodLink q0.1.cls m q'.1 ∈ am_gt := am_on hq (P := fun q => Cond.methodLink q.1.cls m q'.1 ∈ am_gt) (by
  have := am_ml_ok _ (List.contains_iff_mem.mp h)
  unfold am_mlw am_yn at this
  rw [hq'] at this
  rw [← ho]
  exact this)
theorem am_nlq {o y y' m : Nat} {q q' : am_Q} (hq : am_mt[y]? = some q) (ho : am_cn o = q.1.cls) (hq' : am_mt[y']? = some q') (h : am_nl.contains (o, m, y') = true) : ∀ q0, am_mt[y]? = some q0 → Cond.methodLinkNest q0.1.cls m q'.1 "LookTimes" ∈ am_nest := am_on hq (P := fun q => Cond.methodLinkNest q.1.cls m q'.1 "LookTimes" ∈ am_nest) (by
  have := am_nl_ok _ (List.contains_iff_mem.mp h)
  unfold am_yn at this
  rw [hq'] at this
  rw [← ho]
  exact this)
theorem am_plq {o y m i : Nat} {q : am_Q} (hq : am_mt[y]? = some q) (ho : am_cn o = q.1.cls) (h : am_pl.contains (o, m, i) = true) : ∀ q0, am_mt[y]? = some q0 → Cond.methodLink q0.1.cls m (am_pn i) ∈ am_gt := am_on hq (P := fun q => Cond.methodLink q.1.cls m (am_pn i) ∈ am_gt) (by
  rw [← ho]
  exact am_pl_ok _ (List.contains_iff_mem.mp h))
theorem am_pop {st st' : List Value} {n : Nat} {r : Value} (e : st.drop n = r :: st') : st = ((st.take n).reverse).reverse ++ r :: st' ∧ ((st.take n).reverse).length = n := by
  refine ⟨by rw [List.reverse_reverse, ← e, List.take_append_drop], ?_⟩
  rw [List.length_reverse, List.length_take]
  have : (st.drop n).length ≠ 0 := by rw [e]; simp
  rw [List.length_drop] at this
  omega
theorem am_lnc : ∀ (ci : Nat) (r : vw_C), vwCl[ci]? = some r → am_ln ci = r.1
  | 0, r, h => by obtain rfl := Option.some.inj (show some (RX0, TX0, _) = some r from h); rfl
  | 1, r, h => by obtain rfl := Option.some.inj (show some (RX1, TX1, _) = some r from h); rfl
  | 2, r, h => by obtain rfl := Option.some.inj (show some (RX2, TX2, _) = some r from h); rfl
  | 3, r, h => by obtain rfl := Option.some.inj (show some (RX3, TX3, _) = some r from h); rfl
  | 4, r, h => by obtain rfl := Option.some.inj (show some (RX4, TX4, _) = some r from h); rfl
  | 5, r, h => by obtain rfl := Option.some.inj (show some (RX5, TX5, _) = some r from h); rfl
  | 6, r, h => by obtain rfl := Option.some.inj (show some (RX6, TX6, _) = some r from h); rfl
  | 7, r, h => by obtain rfl := Option.some.inj (show some (RX7, TX7, _) = some r from h); rfl
  | 8, r, h => by obtain rfl := Option.some.inj (show some (RX8, TX8, _) = some r from h); rfl
  | 9, r, h => by obtain rfl := Option.some.inj (show some (RX9, TX9, _) = some r from h); rfl
  | 10, r, h => by obtain rfl := Option.some.inj (show some (RX10, TX10, _) = some r from h); rfl
  | 11, r, h => by obtain rfl := Option.some.inj (show some (RX11, TX11, _) = some r from h); rfl
  | 12, r, h => by obtain rfl := Option.some.inj (show some (RX12, TX12, _) = some r from h); rfl
  | n + 13, r, h => absurd (List.getElem?_eq_some_iff.mp h).1 (by show ¬ n + 13 < 13; omega)
theorem am_sw_mono {x : Int32} {J J' : Nat → Prop} : ∀ (ts : List Nat) (lo : Int32), am_sw x lo ts J → (∀ t, J t → J' t) → am_sw x lo ts J'
  | [], _, _, _ => trivial
  | _ :: ts, lo, h, hj => ⟨fun e => hj _ (h.1 e), am_sw_mono ts (lo + 1) h.2 hj⟩
theorem am_sw_get {x : Int32} {J : Nat → Prop} : ∀ (ts : List Nat) (lo : Int32) (i t : Nat), am_sw x lo ts J → ts[i]? = some t → x = lo + Int32.ofNat i → J t
  | [], _, _, _, _, h, _ => by simp at h
  | t0 :: ts, lo, 0, t, hs, h, e => by
    simp at h
    subst h
    exact hs.1 (by rw [e]; show lo + Int32.ofNat 0 = lo; simp)
  | t0 :: ts, lo, i + 1, t, hs, h, e => am_sw_get ts (lo + 1) i t hs.2 (by simpa using h) (by rw [e]; show lo + nI (i + 1) = lo + 1 + nI i; rw [nI_succ]; rw [Int32.add_assoc, Int32.add_comm 1])
theorem am_sw_ok {X : am_X} {d y pc len : Nat} {ls : List (Option Value)} {st : List Value} {S : am_S} {M : am_M} {L : am_L} {bc bs : Nat} {K : am_K} {dflt lo hi : Int} {offs : Array Int} {f : List Nat} {z x : Int32} (ha : am_at y pc (.tableswitch dflt lo hi offs) len) (hc : am_swc pc dflt lo hi offs f z = true)
    (h1 : (x < z ∨ z + Int32.ofNat f.tail.length ≤ x) → am_WP X d y (f.headD 0) ls st S M L bc bs K) (h2 : am_sw x z f.tail (fun t => am_WP X d y t ls st S M L bc bs K)) : am_WP X d y pc ls (.int x :: st) S M L bc bs K := by
  simp only [am_swc, Bool.and_eq_true, decide_eq_true_eq] at hc
  obtain ⟨c1, c2, c3, c4, c5, c6⟩ := hc
  have hx1 := Int32.le_toInt x
  have hx2 := Int32.toInt_lt x
  have hz1 := Int32.le_toInt z
  have hz2 := Int32.toInt_lt z
  have key : ∀ n : Nat, n < 2147483648 → z.toInt + n < 2147483648 → (z + Int32.ofNat n).toInt = z.toInt + n := by
    intro n hn2 hn
    rw [Int32.toInt_add]
    rw [show (Int32.ofNat n).toInt = (n : Int) from nI_toInt (by omega)]
    apply Int.bmod_eq_of_le <;> omega
  by_cases ho : x.toInt < lo ∨ hi < x.toInt
  · refine r_swo ha ho c1 (h1 ?_)
    rcases ho with ho | ho
    · exact Or.inl (Int32.lt_iff_toInt_lt.mpr (by omega))
    · exact Or.inr (Int32.le_iff_toInt_le.mpr (by rw [key _ c6 (by omega)]; omega))
  · have h3 : ¬ x.toInt < lo := fun q => ho (Or.inl q)
    have h4 : ¬ hi < x.toInt := fun q => ho (Or.inr q)
    obtain ⟨i, hi9⟩ : ∃ i : Nat, x.toInt - lo = i := ⟨(x.toInt - lo).toNat, by omega⟩
    have hil : i < f.tail.length := by omega
    obtain ⟨t, ht⟩ : ∃ t, f.tail[i]? = some t := ⟨f.tail[i], List.getElem?_eq_getElem hil⟩
    have hoff : offs[(x.toInt - lo).toNat]? = some ((t : Int) - pc) := by
      rw [hi9, Int.toNat_natCast, ← Array.getElem?_toList, c4, List.getElem?_map, ht]
      rfl
    refine r_swi ha h3 h4 hoff (by omega) (am_sw_get f.tail z i t h2 ht ?_)
    apply Int32.toInt_inj.mp
    rw [key i (by omega) (by omega)]
    omega

set_option maxHeartbeats 4000000 in
theorem am_st_ok {X : am_X} {d y o pc : Nat} {q : am_Q} {ls : List (Option Value)} {st : List Value} {S : am_S} {M : am_M} {L : am_L} {bc bs : Nat} {K : am_K} {k : am_C} {J : Nat → am_C} {PT : am_PT} (hPT : am_PTok PT) (hJ : ∀ t ls st S M L bc bs, J t ls st S M L bc bs → am_WP X d y t ls st S M L bc bs K) (hq : am_mt[y]? = some q) (ho : am_cn o = q.1.cls) (e : am_E) (hc : am_ck o q pc e = true) (hk : ∀ ls st S M L bc bs, k ls st S M L bc bs → am_WP X d y (pc + e.2.1) ls st S M L bc bs K) (h : am_st X d K PT e pc ls st S M L bc bs k J) : am_WP X d y pc ls st S M L bc bs K := by
  obtain ⟨i, n, f, z, zl⟩ := e
  obtain ⟨hd, c9⟩ := Bool.and_eq_true_iff.mp hc
  have hd := of_decide_eq_true hd
  cases i with
  | iload_n j =>
    obtain rfl := am_b1 c9
    obtain ⟨v, e, h⟩ := am_xi_of h
    exact r_iload_n j (am_aq hq hd) e (hk _ _ _ _ _ _ _ h)
  | iload j =>
    obtain rfl := am_b1 c9
    obtain ⟨v, e, h⟩ := am_xi_of h
    exact r_iload j (am_aq hq hd) e (hk _ _ _ _ _ _ _ h)
  | lload_n j =>
    obtain rfl := am_b1 c9
    obtain ⟨v, e, h⟩ := am_xl_of h
    exact r_lload_n j (am_aq hq hd) e (hk _ _ _ _ _ _ _ h)
  | lload j =>
    obtain rfl := am_b1 c9
    obtain ⟨v, e, h⟩ := am_xl_of h
    exact r_lload j (am_aq hq hd) e (hk _ _ _ _ _ _ _ h)
  | aload_n j =>
    obtain rfl := am_b1 c9
    have h : am_xr (l_get ls (j : Nat)) (fun v => k ls (v :: st) S M L bc bs) := h
    obtain ⟨v, e, h⟩ := am_xr_of h
    exact r_aload_n j e.1 (am_aq hq hd) e.2 (hk _ _ _ _ _ _ _ h)
  | aload j =>
    obtain rfl := am_b1 c9
    have h : am_xr (l_get ls j) (fun v => k ls (v :: st) S M L bc bs) := h
    obtain ⟨v, e, h⟩ := am_xr_of h
    exact r_aload j e.1 (am_aq hq hd) e.2 (hk _ _ _ _ _ _ _ h)
  | istore_n j =>
    obtain ⟨c1, c2⟩ := am_b2 c9
    subst c1
    obtain ⟨x, st, rfl, h⟩ := am_s1_of h
    exact r_istore_n j (am_aq hq hd) (am_on hq (P := fun q => (j : Nat) < q.2.2.1) (of_decide_eq_true c2)) (hk _ _ _ _ _ _ _ h)
  | astore_n j =>
    obtain ⟨c1, c2⟩ := am_b2 c9
    subst c1
    have h : am_sr st (fun v st => k (l_st ls (j : Nat) v) st S M L bc bs) := h
    obtain ⟨v, st, rfl, hv, h⟩ := am_sr_of h
    exact r_astore_n j hv (am_aq hq hd) (am_on hq (P := fun q => (j : Nat) < q.2.2.1) (of_decide_eq_true c2)) (hk _ _ _ _ _ _ _ h)
  | lstore_n j =>
    obtain ⟨c1, c2⟩ := am_b2 c9
    subst c1
    obtain ⟨x, st, rfl, h⟩ := am_s1l_of h
    exact r_lstore_n j (am_aq hq hd) (am_on hq (P := fun q => (j : Nat) + 1 < q.2.2.1) (of_decide_eq_true c2)) (hk _ _ _ _ _ _ _ h)
  | istore j =>
    obtain ⟨c1, c2⟩ := am_b2 c9
    subst c1
    obtain ⟨x, st, rfl, h⟩ := am_s1_of h
    exact r_istore j (am_aq hq hd) (am_on hq (P := fun q => j < q.2.2.1) (of_decide_eq_true c2)) (hk _ _ _ _ _ _ _ h)
  | astore j =>
    obtain ⟨c1, c2⟩ := am_b2 c9
    subst c1
    have h : am_sr st (fun v st => k (l_st ls j v) st S M L bc bs) := h
    obtain ⟨v, st, rfl, hv, h⟩ := am_sr_of h
    exact r_astore j hv (am_aq hq hd) (am_on hq (P := fun q => j < q.2.2.1) (of_decide_eq_true c2)) (hk _ _ _ _ _ _ _ h)
  | lstore j =>
    obtain ⟨c1, c2⟩ := am_b2 c9
    subst c1
    obtain ⟨x, st, rfl, h⟩ := am_s1l_of h
    exact r_lstore j (am_aq hq hd) (am_on hq (P := fun q => j + 1 < q.2.2.1) (of_decide_eq_true c2)) (hk _ _ _ _ _ _ _ h)
  | iinc j m =>
    obtain ⟨c1, c2, c3⟩ := am_b3 c9
    subst c1
    obtain ⟨x, e, h⟩ := am_xi_of h
    exact r_iinc j m (am_aq hq hd) (of_decide_eq_true c3) e (am_on hq (P := fun q => j < q.2.2.1) (of_decide_eq_true c2)) (hk _ _ _ _ _ _ _ h)
  | iconst m =>
    obtain ⟨c1, c2⟩ := am_b2 c9
    subst c1
    exact r_iconst m (am_aq hq hd) (of_decide_eq_true c2) (hk _ _ _ _ _ _ _ h)
  | bipush m =>
    obtain ⟨c1, c2⟩ := am_b2 c9
    subst c1
    exact r_bipush m (am_aq hq hd) (of_decide_eq_true c2) (hk _ _ _ _ _ _ _ h)
  | sipush m =>
    obtain ⟨c1, c2⟩ := am_b2 c9
    subst c1
    exact r_sipush m (am_aq hq hd) (of_decide_eq_true c2) (hk _ _ _ _ _ _ _ h)
  | lconst m =>
    obtain ⟨c1, c2⟩ := am_b2 c9
    subst c1
    exact r_lconst m (am_aq hq hd) (of_decide_eq_true c2) (hk _ _ _ _ _ _ _ h)
  | ldc m =>
    obtain ⟨c1, c2⟩ := am_b2 c9
    subst c1
    match f, c2, h with
    | [], c2, h => exact r_ldc m (am_aq hq hd) (am_on hq (P := fun q => Cond.constant q.1.cls m z ∈ am_gt) (by rw [← ho]; exact am_kl_ok _ (List.contains_iff_mem.mp c2))) (hk _ _ _ _ _ _ _ h)
    | [s9], c2, h =>
      obtain ⟨w, hw, e⟩ := List.any_eq_true.mp c2
      simp only [Bool.and_eq_true, beq_iff_eq] at e
      obtain ⟨⟨e1, e2⟩, e3⟩ := e
      refine r_ldcS (tx := w.2.2.1) m (am_aq hq hd) (am_on hq (P := fun q => (q.1.cls, m, w.2.2.1, s9) ∈ am_strs) ?_) (hk _ _ _ _ _ _ _ h)
      rw [← ho, ← e1, ← e2, ← e3]
      exact hw
    | _ :: _ :: _, _, h => exact h.elim
  | ldc_w m =>
    obtain ⟨c1, c2⟩ := am_b2 c9
    subst c1
    exact r_ldcw m (am_aq hq hd) (am_on hq (P := fun q => Cond.constant q.1.cls m z ∈ am_gt) (by rw [← ho]; exact am_kl_ok _ (List.contains_iff_mem.mp c2))) (hk _ _ _ _ _ _ _ h)
  | ldc2_w m =>
    obtain ⟨c1, c2⟩ := am_b2 c9
    subst c1
    exact r_ldc2 m (am_aq hq hd) (am_on hq (P := fun q => Cond.constantLong q.1.cls m zl ∈ am_gt) (by rw [← ho]; exact am_jl_ok _ (List.contains_iff_mem.mp c2))) (hk _ _ _ _ _ _ _ h)
  | iadd =>
    obtain rfl := am_b1 c9
    obtain ⟨x, y9, st, rfl, h⟩ := am_s2_of h
    exact r_iadd (am_aq hq hd) (hk _ _ _ _ _ _ _ h)
  | isub =>
    obtain rfl := am_b1 c9
    obtain ⟨x, y9, st, rfl, h⟩ := am_s2_of h
    exact r_isub (am_aq hq hd) (hk _ _ _ _ _ _ _ h)
  | imul =>
    obtain rfl := am_b1 c9
    obtain ⟨x, y9, st, rfl, h⟩ := am_s2_of h
    exact r_imul (am_aq hq hd) (hk _ _ _ _ _ _ _ h)
  | iand =>
    obtain rfl := am_b1 c9
    obtain ⟨x, y9, st, rfl, h⟩ := am_s2_of h
    exact r_iand (am_aq hq hd) (hk _ _ _ _ _ _ _ h)
  | ior =>
    obtain rfl := am_b1 c9
    obtain ⟨x, y9, st, rfl, h⟩ := am_s2_of h
    exact r_ior (am_aq hq hd) (hk _ _ _ _ _ _ _ h)
  | ixor =>
    obtain rfl := am_b1 c9
    obtain ⟨x, y9, st, rfl, h⟩ := am_s2_of h
    exact r_ixor (am_aq hq hd) (hk _ _ _ _ _ _ _ h)
  | ishl =>
    obtain rfl := am_b1 c9
    obtain ⟨x, y9, st, rfl, h⟩ := am_s2_of h
    exact r_ishl (am_aq hq hd) (hk _ _ _ _ _ _ _ h)
  | ishr =>
    obtain rfl := am_b1 c9
    obtain ⟨x, y9, st, rfl, h⟩ := am_s2_of h
    exact r_ishr (am_aq hq hd) (hk _ _ _ _ _ _ _ h)
  | iushr =>
    obtain rfl := am_b1 c9
    obtain ⟨x, y9, st, rfl, h⟩ := am_s2_of h
    exact r_iushr (am_aq hq hd) (hk _ _ _ _ _ _ _ h)
  | idiv =>
    obtain rfl := am_b1 c9
    obtain ⟨x, y9, st, rfl, h⟩ := am_s2_of h
    exact r_idiv (am_aq hq hd) h.1 (hk _ _ _ _ _ _ _ h.2)
  | irem =>
    obtain rfl := am_b1 c9
    obtain ⟨x, y9, st, rfl, h⟩ := am_s2_of h
    exact r_irem (am_aq hq hd) h.1 (hk _ _ _ _ _ _ _ h.2)
  | ladd =>
    obtain rfl := am_b1 c9
    obtain ⟨x, y9, st, rfl, h⟩ := am_s2l_of h
    exact r_ladd (am_aq hq hd) (hk _ _ _ _ _ _ _ h)
  | lsub =>
    obtain rfl := am_b1 c9
    obtain ⟨x, y9, st, rfl, h⟩ := am_s2l_of h
    exact r_lsub (am_aq hq hd) (hk _ _ _ _ _ _ _ h)
  | lmul =>
    obtain rfl := am_b1 c9
    obtain ⟨x, y9, st, rfl, h⟩ := am_s2l_of h
    exact r_lmul (am_aq hq hd) (hk _ _ _ _ _ _ _ h)
  | land =>
    obtain rfl := am_b1 c9
    obtain ⟨x, y9, st, rfl, h⟩ := am_s2l_of h
    exact r_land (am_aq hq hd) (hk _ _ _ _ _ _ _ h)
  | ldiv =>
    obtain rfl := am_b1 c9
    obtain ⟨x, y9, st, rfl, h⟩ := am_s2l_of h
    exact r_ldiv (am_aq hq hd) h.1 (hk _ _ _ _ _ _ _ h.2)
  | lrem =>
    obtain rfl := am_b1 c9
    obtain ⟨x, y9, st, rfl, h⟩ := am_s2l_of h
    exact r_lrem (am_aq hq hd) h.1 (hk _ _ _ _ _ _ _ h.2)
  | lshl =>
    obtain rfl := am_b1 c9
    obtain ⟨x, y9, st, rfl, h⟩ := am_sil_of h
    exact r_lshl (am_aq hq hd) (hk _ _ _ _ _ _ _ h)
  | lshr =>
    obtain rfl := am_b1 c9
    obtain ⟨x, y9, st, rfl, h⟩ := am_sil_of h
    exact r_lshr (am_aq hq hd) (hk _ _ _ _ _ _ _ h)
  | ineg =>
    obtain rfl := am_b1 c9
    obtain ⟨x, st, rfl, h⟩ := am_s1_of h
    exact r_ineg (am_aq hq hd) (hk _ _ _ _ _ _ _ h)
  | i2l =>
    obtain rfl := am_b1 c9
    obtain ⟨x, st, rfl, h⟩ := am_s1_of h
    exact r_i2l (am_aq hq hd) (hk _ _ _ _ _ _ _ h)
  | i2b =>
    obtain rfl := am_b1 c9
    obtain ⟨x, st, rfl, h⟩ := am_s1_of h
    exact r_i2b (am_aq hq hd) (hk _ _ _ _ _ _ _ h)
  | i2c =>
    obtain rfl := am_b1 c9
    obtain ⟨x, st, rfl, h⟩ := am_s1_of h
    exact r_i2c (am_aq hq hd) (hk _ _ _ _ _ _ _ h)
  | l2i =>
    obtain rfl := am_b1 c9
    obtain ⟨x, st, rfl, h⟩ := am_s1l_of h
    exact r_l2i (am_aq hq hd) (hk _ _ _ _ _ _ _ h)
  | lcmp =>
    obtain rfl := am_b1 c9
    obtain ⟨x, y9, st, rfl, h⟩ := am_s2l_of h
    exact r_lcmp (am_aq hq hd) (hk _ _ _ _ _ _ _ h)
  | dup =>
    obtain rfl := am_b1 c9
    have h : am_sc st (fun v st => k ls (v :: v :: st) S M L bc bs) := h
    obtain ⟨v, st, rfl, hv, h⟩ := am_sc_of h
    exact r_dup hv (am_aq hq hd) (hk _ _ _ _ _ _ _ h)
  | dup2 =>
    obtain rfl := am_b1 c9
    have h : am_sc st (fun v st => am_sc st (fun w st => k ls (v :: w :: v :: w :: st) S M L bc bs)) := h
    obtain ⟨v, st, rfl, hv, h⟩ := am_sc_of h
    have h : am_sc st (fun w st => k ls (v :: w :: v :: w :: st) S M L bc bs) := h
    obtain ⟨w, st, rfl, hw, h⟩ := am_sc_of h
    exact r_dup2 hv hw (am_aq hq hd) (hk _ _ _ _ _ _ _ h)
  | pop =>
    obtain rfl := am_b1 c9
    have h : am_sc st (fun v st => k ls st S M L bc bs) := h
    obtain ⟨v, st, rfl, hv, h⟩ := am_sc_of h
    exact r_pop hv (am_aq hq hd) (hk _ _ _ _ _ _ _ h)
  | goto off =>
    obtain ⟨c1, c2⟩ := am_b2 c9
    subst c1
    exact r_goto (am_aq hq hd) (of_decide_eq_true c2) (hJ _ _ _ _ _ _ _ _ h)
  | ifCond cd off =>
    obtain ⟨c1, c2⟩ := am_b2 c9
    subst c1
    obtain ⟨x, st, rfl, h⟩ := am_s1_of h
    cases cd with
    | eq => exact r_if_eq (am_aq hq hd) (of_decide_eq_true c2) (fun e => hJ _ _ _ _ _ _ _ _ (h.1 e)) (fun e => hk _ _ _ _ _ _ _ (h.2 e))
    | ne => exact r_if_ne (am_aq hq hd) (of_decide_eq_true c2) (fun e => hJ _ _ _ _ _ _ _ _ (h.1 e)) (fun e => hk _ _ _ _ _ _ _ (h.2 e))
    | lt => exact r_if_lt (am_aq hq hd) (of_decide_eq_true c2) (fun e => hJ _ _ _ _ _ _ _ _ (h.1 e)) (fun e => hk _ _ _ _ _ _ _ (h.2 e))
    | ge => exact r_if_ge (am_aq hq hd) (of_decide_eq_true c2) (fun e => hJ _ _ _ _ _ _ _ _ (h.1 e)) (fun e => hk _ _ _ _ _ _ _ (h.2 e))
    | gt => exact r_if_gt (am_aq hq hd) (of_decide_eq_true c2) (fun e => hJ _ _ _ _ _ _ _ _ (h.1 e)) (fun e => hk _ _ _ _ _ _ _ (h.2 e))
    | le => exact r_if_le (am_aq hq hd) (of_decide_eq_true c2) (fun e => hJ _ _ _ _ _ _ _ _ (h.1 e)) (fun e => hk _ _ _ _ _ _ _ (h.2 e))
  | if_icmp cd off =>
    obtain ⟨c1, c2⟩ := am_b2 c9
    subst c1
    obtain ⟨x, y9, st, rfl, h⟩ := am_s2_of h
    cases cd with
    | eq => exact r_ic_eq (am_aq hq hd) (of_decide_eq_true c2) (fun e => hJ _ _ _ _ _ _ _ _ (h.1 e)) (fun e => hk _ _ _ _ _ _ _ (h.2 e))
    | ne => exact r_ic_ne (am_aq hq hd) (of_decide_eq_true c2) (fun e => hJ _ _ _ _ _ _ _ _ (h.1 e)) (fun e => hk _ _ _ _ _ _ _ (h.2 e))
    | lt => exact r_ic_lt (am_aq hq hd) (of_decide_eq_true c2) (fun e => hJ _ _ _ _ _ _ _ _ (h.1 e)) (fun e => hk _ _ _ _ _ _ _ (h.2 e))
    | ge => exact r_ic_ge (am_aq hq hd) (of_decide_eq_true c2) (fun e => hJ _ _ _ _ _ _ _ _ (h.1 e)) (fun e => hk _ _ _ _ _ _ _ (h.2 e))
    | gt => exact r_ic_gt (am_aq hq hd) (of_decide_eq_true c2) (fun e => hJ _ _ _ _ _ _ _ _ (h.1 e)) (fun e => hk _ _ _ _ _ _ _ (h.2 e))
    | le => exact r_ic_le (am_aq hq hd) (of_decide_eq_true c2) (fun e => hJ _ _ _ _ _ _ _ _ (h.1 e)) (fun e => hk _ _ _ _ _ _ _ (h.2 e))
  | ifnonnull off =>
    obtain ⟨c1, c2⟩ := am_b2 c9
    subst c1
    match st, h with
    | .ref _ :: st, h => exact r_nn_ref (am_aq hq hd) (of_decide_eq_true c2) (hJ _ _ _ _ _ _ _ _ h)
    | .null :: st, h => exact r_nn_null (am_aq hq hd) (hk _ _ _ _ _ _ _ h)
  | ifnull off =>
    obtain ⟨c1, c2⟩ := am_b2 c9
    subst c1
    match st, h with
    | .ref _ :: st, h => exact r_nu_ref (am_aq hq hd) (hk _ _ _ _ _ _ _ h)
    | .null :: st, h => exact r_nu_null (am_aq hq hd) (of_decide_eq_true c2) (hJ _ _ _ _ _ _ _ _ h)
  | tableswitch dflt lo hi offs =>
    obtain ⟨x, st, rfl, h⟩ := am_s1_of h
    exact am_sw_ok (am_aq hq hd) c9 (fun e => hJ _ _ _ _ _ _ _ _ (h.1 e)) (am_sw_mono _ _ h.2 (fun t ht => hJ _ _ _ _ _ _ _ _ ht))
  | ireturn =>
    obtain ⟨c1, c2⟩ := am_b2 c9
    subst c1
    match st, h with
    | [.int v], h =>
      match f, c2, h with
      | [], c2, h => exact r_ireturn (am_aq hq hd) (am_on hq (P := fun q => ∃ ty, q.2.2.2.1 = some ty ∧ narrow ty (.int v) = .int v) ⟨.int, of_decide_eq_true c2, rfl⟩) h
      | [1], c2, h => exact r_ireturn (am_aq hq hd) (am_on hq (P := fun q => ∃ ty, q.2.2.2.1 = some ty ∧ narrow ty (.int v) = .int v) ⟨.boolean, of_decide_eq_true c2, by rcases h.1 with e | e <;> rw [e] <;> decide⟩) h.2
      | [2], c2, h => exact r_ireturn (am_aq hq hd) (am_on hq (P := fun q => ∃ ty, q.2.2.2.1 = some ty ∧ narrow ty (.int v) = .int v) ⟨.char, of_decide_eq_true c2, h.1⟩) h.2
      | [3], c2, h => exact r_ireturn (am_aq hq hd) (am_on hq (P := fun q => ∃ ty, q.2.2.2.1 = some ty ∧ narrow ty (.int v) = .int v) ⟨.byte, of_decide_eq_true c2, h.1⟩) h.2
  | lreturn =>
    obtain ⟨c1, c2⟩ := am_b2 c9
    subst c1
    match st, h with
    | [.long v], h => exact r_lreturn (am_aq hq hd) (am_on hq (P := fun q => q.2.2.2.1 = some .long) (of_decide_eq_true c2)) h
  | return_ =>
    obtain ⟨c1, c2⟩ := am_b2 c9
    subst c1
    obtain ⟨rfl, h⟩ := h
    exact r_return (am_aq hq hd) (am_on hq (P := fun q => q.2.2.2.1 = none) (of_decide_eq_true c2)) h
  | getfield m =>
    obtain ⟨c1, c2⟩ := am_b2 c9
    subst c1
    match st, f, c2, h with
    | .ref a :: st, [ci, j, t], c2, h =>
      simp only [Bool.and_eq_true] at c2
      obtain ⟨⟨d1, d2⟩, d3⟩ := c2
      exact r_get t (am_aq hq hd) (am_on hq (P := fun q => Cond.fieldLink q.1.cls m (am_F ci j).1 (am_F ci j).2.1 (am_F ci j).2.2.1 ∈ am_gt) (by rw [← ho]; exact am_fl_ok _ (List.contains_iff_mem.mp d1))) (of_decide_eq_true d2) (of_decide_eq_true d3) h.1.1 h.1.2 (hk _ _ _ _ _ _ _ h.2)
    | .retAddr a :: st, [0], c2, h =>
      obtain ⟨r, hr, rfl⟩ : ∃ r, r < 17 ∧ a = 10 + r := ⟨a - 10, by have := h.1; omega, by have := h.1; omega⟩
      exact r_kcod hr (am_aq hq hd) (am_on hq (P := fun q => Cond.fieldLink q.1.cls m "java/lang/String" "coder" "B" ∈ am_gt) (by rw [← ho]; exact am_sf_ok _ (List.contains_iff_mem.mp c2))) (hk _ _ _ _ _ _ _ h.2)
    | .retAddr a :: st, [1], c2, h =>
      obtain ⟨r, hr, rfl⟩ : ∃ r, r < 17 ∧ a = 10 + r := ⟨a - 10, by have := h.1; omega, by have := h.1; omega⟩
      refine r_kval hr (am_aq hq hd) (am_on hq (P := fun q => Cond.fieldLink q.1.cls m "java/lang/String" "value" "[B" ∈ am_gt) (by rw [← ho]; exact am_sf_ok _ (List.contains_iff_mem.mp c2))) (hk _ _ _ _ _ _ _ ?_)
      have e : 40 + r = 10 + r + 30 := by omega
      rw [e]
      exact h.2
  | putfield m =>
    obtain ⟨c1, c2⟩ := am_b2 c9
    subst c1
    match st, f, c2, h with
    | .int x :: .ref a :: st, [ci, j, 0], c2, h =>
      obtain ⟨d1, d2, d3, d4⟩ := am_pf hq ho c2
      exact r_puti (am_aq hq hd) d1 d2 d3 (Or.inl (of_decide_eq_true d4)) h.1.1 h.1.2 (hk _ _ _ _ _ _ _ h.2)
    | .int x :: .ref a :: st, [ci, j, 3], c2, h =>
      obtain ⟨d1, d2, d3, d4⟩ := am_pf hq ho c2
      exact r_puti (am_aq hq hd) d1 d2 d3 (Or.inr ⟨of_decide_eq_true d4, h.2.1⟩) h.1.1 h.1.2 (hk _ _ _ _ _ _ _ h.2.2)
    | .long x :: .ref a :: st, [ci, j, 1], c2, h =>
      obtain ⟨d1, d2, d3, d4⟩ := am_pf hq ho c2
      exact r_putl (am_aq hq hd) d1 d2 d3 (of_decide_eq_true d4) h.1.1 h.1.2 (hk _ _ _ _ _ _ _ h.2)
    | .ref r :: .ref a :: st, [ci, j, 2], c2, h =>
      obtain ⟨d1, d2, d3, d4⟩ := am_pf hq ho c2
      exact r_putr (some r) (am_aq hq hd) d1 d2 d3 (of_decide_eq_true d4) h.1.1 h.1.2 (hk _ _ _ _ _ _ _ h.2)
    | .null :: .ref a :: st, [ci, j, 2], c2, h =>
      obtain ⟨d1, d2, d3, d4⟩ := am_pf hq ho c2
      exact r_putr none (am_aq hq hd) d1 d2 d3 (of_decide_eq_true d4) h.1.1 h.1.2 (hk _ _ _ _ _ _ _ h.2)
  | getstatic m =>
    obtain ⟨c1, c2⟩ := am_b2 c9
    subst c1
    match f, c2, h with
    | [1], c2, h => exact r_gs1 (am_aq hq hd) (am_on hq (P := fun q => Cond.fieldLinkNest q.1.cls m "LookTimes" "AFTER_W" "[I" "LookTimes" ∈ am_nest) (by rw [← ho]; exact List.contains_iff_mem.mp c2)) (hk _ _ _ _ _ _ _ h)
    | [2], c2, h => exact r_gs2 (am_aq hq hd) (am_on hq (P := fun q => Cond.fieldLinkNest q.1.cls m "LookTimes" "AFTER_MOST" "[I" "LookTimes" ∈ am_nest) (by rw [← ho]; exact List.contains_iff_mem.mp c2)) (hk _ _ _ _ _ _ _ h)
    | [3], c2, h => exact r_gsF (am_aq hq hd) (am_on hq (P := fun q => Cond.fieldLink q.1.cls m "jdk/internal/util/Preconditions" "SIOOBE_FORMATTER" "Ljava/util/function/BiFunction;" ∈ am_gt) (by rw [← ho]; exact am_sf_ok _ (List.contains_iff_mem.mp c2))) (hk _ _ _ _ _ _ _ h)
    | [0], c2, h => exact r_gsC (am_aq hq hd) (am_on hq (P := fun q => Cond.fieldLink q.1.cls m "java/lang/String" "COMPACT_STRINGS" "Z" ∈ am_gt) (by rw [← ho]; exact am_sf_ok _ (List.contains_iff_mem.mp c2))) (hk _ _ _ _ _ _ _ h)
  | iaload =>
    obtain rfl := am_b1 c9
    match st, h with
    | .int i :: .ref a :: st, h =>
      obtain ⟨h1, h2, h3⟩ := h
      exact r_iald (am_aq hq hd) h1.is.1 h1.is.2 h2 (hk _ _ _ _ _ _ _ h3)
    | .int i :: .retAddr 0 :: st, h => exact r_sld (am_aq hq hd) h.1 (hk _ _ _ _ _ _ _ h.2)
    | .int i :: .retAddr 1 :: st, h => exact r_tld1 (am_aq hq hd) h.1 (hk _ _ _ _ _ _ _ h.2)
    | .int i :: .retAddr 2 :: st, h => exact r_tld2 (am_aq hq hd) h.1 (hk _ _ _ _ _ _ _ h.2)
  | baload =>
    obtain rfl := am_b1 c9
    match st, h with
    | .int i :: .ref a :: st, h =>
      obtain ⟨h1 | h1, h2, h3⟩ := h
      · exact r_bald (am_aq hq hd) h1.is.1 h1.is.2 h2 (hk _ _ _ _ _ _ _ h3)
      · exact r_zald (am_aq hq hd) h1.is.1 h1.is.2 h2 (hk _ _ _ _ _ _ _ h3)
    | .int i :: .retAddr a :: st, h =>
      obtain ⟨r, hr, rfl⟩ : ∃ r, r < 17 ∧ a = 40 + r := ⟨a - 40, by have := h.1; omega, by have := h.1; omega⟩
      have h2 := h.2
      have e : 40 + r - 40 = r := by omega
      rw [e] at h2
      exact r_kld hr (am_aq hq hd) h2.1 (hk _ _ _ _ _ _ _ h2.2)
  | laload =>
    obtain rfl := am_b1 c9
    match st, h with
    | .int i :: .ref a :: st, h =>
      obtain ⟨h1, h2, h3⟩ := h
      exact r_lald (am_aq hq hd) h1.is.1 h1.is.2 h2 (hk _ _ _ _ _ _ _ h3)
  | aaload =>
    obtain rfl := am_b1 c9
    match st, h with
    | .int i :: .ref a :: st, h =>
      obtain ⟨h2, h3⟩ := h
      by_cases h5 : (S.2.1 a).1 = 5
      · rw [if_pos h5] at h3
        have h1 := am_ia.is ⟨h3.1, h5⟩
        cases hp : S.2.2 a i.toNatClampNeg with
        | none => rw [hp] at h3; exact h3.2.elim
        | some r =>
          rw [hp] at h3
          exact r_aaldS (am_aq hq hd) h1.1 h1.2 h2 hp h3.2.1 (hk _ _ _ _ _ _ _ h3.2.2)
      · rw [if_neg h5] at h3
        obtain ⟨h1 | h1, h3⟩ := h3
        · exact r_aaldI (am_aq hq hd) h1.is.1 h1.is.2 h2 (hk _ _ _ _ _ _ _ h3)
        · exact r_aaldL (am_aq hq hd) h1.is.1 h1.is.2 h2 (hk _ _ _ _ _ _ _ h3)
  | iastore =>
    obtain rfl := am_b1 c9
    match st, h with
    | .int x :: .int i :: .ref a :: st, h =>
      obtain ⟨h1, h2, h3⟩ := h
      exact r_iast (am_aq hq hd) h1.is.1 h1.is.2 h2 (hk _ _ _ _ _ _ _ h3)
  | bastore =>
    obtain rfl := am_b1 c9
    match st, h with
    | .int x :: .int i :: .ref a :: st, h =>
      obtain ⟨h2, h3⟩ := h
      by_cases h5 : (S.2.1 a).1 = 2
      · rw [if_pos h5] at h3
        have h1 := am_ia.is ⟨h3.1, h5⟩
        exact r_bast (am_aq hq hd) h1.1 h1.2 h2 (hk _ _ _ _ _ _ _ h3.2)
      · rw [if_neg h5] at h3
        exact r_zast (am_aq hq hd) h3.1.is.1 h3.1.is.2 h2 (hk _ _ _ _ _ _ _ h3.2)
  | lastore =>
    obtain rfl := am_b1 c9
    match st, h with
    | .long x :: .int i :: .ref a :: st, h =>
      obtain ⟨h1, h2, h3⟩ := h
      exact r_last (am_aq hq hd) h1.is.1 h1.is.2 h2 (hk _ _ _ _ _ _ _ h3)
  | aastore =>
    obtain rfl := am_b1 c9
    match st, h with
    | .ref r :: .int i :: .ref a :: st, h =>
      obtain ⟨h1, h2, h3, h4⟩ := h
      exact r_aastL (am_aq hq hd) h1.is.1 h1.is.2 h2.1 h2.2 h3 (hk _ _ _ _ _ _ _ h4)
    | .retAddr r :: .int i :: .ref a :: st, h =>
      obtain ⟨h1, h2, h3, h4⟩ := h
      obtain ⟨r, hr, rfl⟩ : ∃ r', r' < 17 ∧ r = 10 + r' := ⟨r - 10, by omega, by omega⟩
      exact r_aastS (am_aq hq hd) h1.is.1 h1.is.2 hr h3 (hk _ _ _ _ _ _ _ h4)
  | arraylength =>
    obtain rfl := am_b1 c9
    match st, h with
    | .ref a :: st, h =>
      obtain ⟨⟨h1, h2, h4⟩, h3⟩ := h
      exact r_aalen (am_aq hq hd) h1 (t := (S.2.1 a).1) (n := (S.2.1 a).2) rfl (by omega) (hk _ _ _ _ _ _ _ h3)
    | .retAddr 0 :: st, h => exact r_slen (am_aq hq hd) (hk _ _ _ _ _ _ _ h)
    | .retAddr 1 :: st, h => exact r_tlen1 (am_aq hq hd) (hk _ _ _ _ _ _ _ h)
    | .retAddr 2 :: st, h => exact r_tlen2 (am_aq hq hd) (hk _ _ _ _ _ _ _ h)
    | .retAddr (a + 3) :: st, h =>
      obtain ⟨r, hr, e⟩ : ∃ r, r < 17 ∧ a + 3 = 40 + r := ⟨a + 3 - 40, by have := h.1; omega, by have := h.1; omega⟩
      rw [e]
      have h2 := h.2
      rw [e] at h2
      have e2 : 40 + r - 40 = r := by omega
      rw [e2] at h2
      exact r_klen hr (am_aq hq hd) (hk _ _ _ _ _ _ _ h2)
  | newarray at9 =>
    obtain ⟨c1, c2⟩ := am_b2 c9
    subst c1
    match st, h with
    | .int c :: st, h =>
      obtain ⟨h1, h2, h3, h4⟩ := h
      simp only [Bool.or_eq_true, Bool.and_eq_true, decide_eq_true_eq] at c2
      rcases c2 with ((⟨rfl, c2⟩ | ⟨rfl, c2⟩) | ⟨rfl, c2⟩) | ⟨rfl, c2⟩ <;> rw [c2] at h4
      · exact r_newI (am_aq hq hd) w_arrI h1.1 rfl h1.2 h2 h3 (hk _ _ _ _ _ _ _ h4)
      · exact r_newB (am_aq hq hd) w_arrB h1.1 rfl h1.2 h2 h3 (hk _ _ _ _ _ _ _ h4)
      · exact r_newZ (am_aq hq hd) w_arrZ h1.1 rfl h1.2 h2 h3 (hk _ _ _ _ _ _ _ h4)
      · exact r_newJ (am_aq hq hd) w_arrJ h1.1 rfl h1.2 h2 h3 (hk _ _ _ _ _ _ _ h4)
  | anewarray m =>
    obtain ⟨c1, c2⟩ := am_b2 c9
    subst c1
    match st, h with
    | .int c :: st, h =>
      obtain ⟨h1, h2, h3, h4⟩ := h
      simp only [Bool.or_eq_true, Bool.and_eq_true, decide_eq_true_eq] at c2
      rcases c2 with ⟨c2, c3⟩ | ⟨c2, c3⟩ <;> rw [c2] at h4
      · exact r_newS (am_aq hq hd) (am_on hq (P := fun q => Cond.classLink q.1.cls m "java/lang/String" ∈ am_gt) (by rw [← ho]; exact am_cc_ok _ (List.contains_iff_mem.mp c3))) h1.1 rfl h1.2 h2 h3 (hk _ _ _ _ _ _ _ h4)
      · exact r_newQ (am_aq hq hd) (am_on hq (P := fun q => Cond.classLink q.1.cls m "LookTimes$Lab" ∈ am_gt) (by rw [← ho]; exact am_cc_ok _ (List.contains_iff_mem.mp c3))) h1.1 rfl h1.2 h2 h3 (hk _ _ _ _ _ _ _ h4)
  | multianewarray m dm =>
    obtain ⟨c1, c2, c3⟩ := am_b3 c9
    subst c1
    have c2 := of_decide_eq_true c2
    subst c2
    match st, h with
    | .int c2 :: .int c1 :: st, h =>
      obtain ⟨⟨h1, h2, h3, h4⟩, h5, h6, h7⟩ := h
      exact r_mna (am_aq hq hd) (am_on hq (P := fun q => Cond.classLink q.1.cls m "[[I" ∈ am_gt) (by rw [← ho]; exact am_cc_ok _ (List.contains_iff_mem.mp c3))) w_arrI h1 h2 rfl rfl h3 h4 h5 h6 (hk _ _ _ _ _ _ _ h7)
  | new m =>
    obtain ⟨c1, c2, c3⟩ := am_b3 c9
    subst c1
    obtain ⟨h1, h2, h3⟩ := h
    have c3 := of_decide_eq_true c3
    generalize f.headD 99 = ci at c2 c3 h2 h3
    obtain ⟨r, hr⟩ : ∃ r, vwCl[ci]? = some r := ⟨vwCl[ci]'c3, List.getElem?_eq_getElem c3⟩
    have e : am_nf ci = r.2.2 := by unfold am_nf; rw [List.getD_eq_getElem?_getD, hr]; rfl
    have e2 : am_ln ci = r.1 := am_lnc ci r hr
    obtain ⟨w1, w2, w3⟩ := w_inst r (List.mem_of_getElem? hr)
    rw [e] at h2 h3
    exact r_new (am_aq hq hd) hr (am_on hq (P := fun q => Cond.classLink q.1.cls m r.1 ∈ am_gt) (by rw [← ho, ← e2]; exact am_cc_ok _ (List.contains_iff_mem.mp c2))) w1 w2 w3 h1 h2 (hk _ _ _ _ _ _ _ h3)
  | invokevirtual m =>
    obtain ⟨c1, c2⟩ := am_b2 c9
    subst c1
    match f, c2, h with
    | [y', n, mc, ms, ci], c2, h =>
      have h : am_sr (st.drop n) (fun r st' => am_rk false S ci r ∧ (st'.map fun v => v.category).sum ≤ 8 ∧ mc ≤ bc ∧ ms ≤ bs ∧ am_dn d (fun d' => am_cal X PT d' y' (r :: (st.take n).reverse) S M L (fun r S' M' L' => k ls (r.toList ++ st') S' M' L' (bc - mc) (bs - ms)))) := h
      obtain ⟨q', hq', hm, d1, rfl, rfl, rfl, d5⟩ := am_cf c2
      obtain ⟨r, st', e, -, h1, h2, h3, h4, h5⟩ := am_sr_of h
      obtain ⟨d', hd9, h5a⟩ := am_dn_of h5
      clear h5
      subst hd9
      have h5 := h5a
      obtain ⟨hst, hlen⟩ := am_pop e
      simp only [Bool.and_eq_true] at d5
      obtain ⟨d5, d6⟩ := d5
      have hl := am_mlq hq ho hq' d5
      rw [hst]
      match r, h1, h5 with
      | .ref a, h1, h5 =>
        have h9 : ci ≠ 99 ∧ am_is S a 0 ci := h1.resolve_left (by decide)
        have h1 := h9.2
        cases hr : vwCl[ci]? with
        | none =>
          rw [hr] at d6
          simp only [Bool.and_eq_true, decide_eq_true_eq] at d6
          exact absurd d6.1 h9.1
        | some rr =>
          rw [hr] at d6
          exact r_callV (am_aq hq hd) hq' hm d1 hl hlen h1.1 h1.2 hr (of_decide_eq_true d6) h2 h3 h4 (am_Call_mono (am_cal_ok hPT h5) (fun r S' M' L' hh => hk _ _ _ _ _ _ _ hh))
      | .retAddr a, h1, h5 =>
        obtain ⟨-, h6, h7, h8⟩ := h1
        obtain ⟨i, hi, rfl⟩ : ∃ i, i < 17 ∧ a = 10 + i := ⟨a - 10, by omega, by omega⟩
        subst h6
        have d6 : (decide ((99 : Nat) = 99) && decide ("java/lang/String" = q'.1.cls)) = true := d6
        simp only [Bool.and_eq_true, decide_eq_true_eq] at d6
        exact r_callK (am_aq hq hd) hq' hm d1 hl hlen hi d6.2 h2 h3 h4 (am_Call_mono (am_cal_ok hPT h5) (fun r S' M' L' hh => hk _ _ _ _ _ _ _ hh))
  | invokestatic m =>
    obtain ⟨c1, c2⟩ := am_b2 c9
    subst c1
    match f, c2, h with
    | [y', n, mc, ms], c2, h =>
      obtain ⟨q', hq', hm, d1, rfl, rfl, rfl, d5⟩ := am_cf c2
      obtain ⟨h0, h2, h3, h4, h5⟩ := h
      obtain ⟨d', hd9, h5a⟩ := am_dn_of h5
      clear h5
      subst hd9
      have h5 := h5a
      have hst : st = ((st.take q'.2.2.2.2.2.1).reverse).reverse ++ st.drop q'.2.2.2.2.2.1 := by rw [List.reverse_reverse, List.take_append_drop]
      have hlen : ((st.take q'.2.2.2.2.2.1).reverse).length = q'.2.2.2.2.2.1 := by rw [List.length_reverse, List.length_take]; omega
      rw [hst]
      simp only [Bool.or_eq_true] at d5
      rcases d5 with d5 | d5
      · exact r_callS (am_aq hq hd) hq' hm d1 (am_mlq hq ho hq' d5) hlen h2 h3 h4 (am_Call_mono (am_cal_ok hPT h5) (fun r S' M' L' hh => hk _ _ _ _ _ _ _ hh))
      · exact r_callSN (am_aq hq hd) hq' hm d1 (am_nlq hq ho hq' d5) hlen h2 h3 h4 (am_Call_mono (am_cal_ok hPT h5) (fun r S' M' L' hh => hk _ _ _ _ _ _ _ hh))
    | [0], c2, h =>
      obtain ⟨x, y9, st, rfl, h1, h2, h3⟩ := am_s2_of h
      exact r_mmax h1 (am_aq hq hd) (am_plq hq ho c2) w_maxS w_math w_maxC h2 (hk _ _ _ _ _ _ _ h3)
    | [1], c2, h =>
      obtain ⟨x, y9, st, rfl, h1, h2, h3⟩ := am_s2_of h
      exact r_mmin h1 (am_aq hq hd) (am_plq hq ho c2) w_minS w_math w_minC h2 (hk _ _ _ _ _ _ _ h3)
    | [2], c2, h =>
      obtain ⟨x, st, rfl, h1, h2, h3⟩ := am_s1_of h
      exact r_mabs h1 (am_aq hq hd) (am_plq hq ho c2) w_absS w_math w_absC h2 (hk _ _ _ _ _ _ _ h3)
    | [3], c2, h =>
      obtain ⟨x, y9, st, rfl, h1, h2, h3⟩ := am_s2l_of h
      exact r_mmaxl h1 (am_aq hq hd) (am_plq hq ho c2) w_maxlS w_math w_maxlC h2 (hk _ _ _ _ _ _ _ h3)
    | [4], c2, h =>
      obtain ⟨x, y9, st, rfl, h1, h2, h3⟩ := am_s2l_of h
      exact r_mminl h1 (am_aq hq hd) (am_plq hq ho c2) w_minlS w_math w_minlC h2 (hk _ _ _ _ _ _ _ h3)
    | [5], c2, h =>
      match st, h with
      | .int n :: .int dp :: .ref b :: .int sp :: .ref a :: st, h =>
        obtain ⟨g1, g2, g3, ⟨g4, g5, g6⟩, ⟨g7, g8⟩, g9, g10, h⟩ := h
        exact r_copy g9 (am_aq hq hd) (am_plq hq ho c2) w_acN w_acS w_sys g1.is.1 g1.is.2 g2.is.1 g2.is.2 g3 g4 g5 g6 g7 g8 g10 (hk _ _ _ _ _ _ _ h)
  | invokespecial m =>
    obtain ⟨c1, c2⟩ := am_b2 c9
    subst c1
    match f, c2, h with
    | [], c2, h =>
      have h : am_sr st (fun r st => am_r0 r ∧ 1 ≤ d ∧ (st.map fun v => v.category).sum ≤ 8 ∧ k ls st S M L bc bs) := h
      obtain ⟨r, st, rfl, -, h1, h2, h3, h4⟩ := am_sr_of h
      match r, h1 with
      | .ref a, _ => exact r_obj h2 (am_aq hq hd) (am_on hq (P := fun q => Cond.methodLink q.1.cls m objectInit ∈ am_gt) (by rw [← ho]; exact am_ol_ok _ (List.contains_iff_mem.mp c2))) w_objI w_objC h3 (hk _ _ _ _ _ _ _ h4)
    | [y', n, mc, ms, ci], c2, h =>
      have h : am_sr (st.drop n) (fun r st' => am_rk true S ci r ∧ (st'.map fun v => v.category).sum ≤ 8 ∧ mc ≤ bc ∧ ms ≤ bs ∧ am_dn d (fun d' => am_cal X PT d' y' (r :: (st.take n).reverse) S M L (fun r S' M' L' => k ls (r.toList ++ st') S' M' L' (bc - mc) (bs - ms)))) := h
      obtain ⟨q', hq', hm, d1, rfl, rfl, rfl, d5⟩ := am_cf c2
      obtain ⟨r, st', e, -, h1, h2, h3, h4, h5⟩ := am_sr_of h
      obtain ⟨d', hd9, h5a⟩ := am_dn_of h5
      clear h5
      subst hd9
      have h5 := h5a
      obtain ⟨hst, hlen⟩ := am_pop e
      simp only [Bool.or_eq_true] at d5
      rw [hst]
      match r, h1, h5 with
      | .ref a, h1, h5 =>
        refine r_callI (am_aq hq hd) hq' hm d1 ?_ hlen h2 h3 h4 (am_Call_mono (am_cal_ok hPT h5) (fun r S' M' L' hh => hk _ _ _ _ _ _ _ hh))
        rcases d5 with d5 | d5
        · exact fun q0 h0 => Or.inl (am_mlq hq ho hq' d5 q0 h0)
        · exact fun q0 h0 => Or.inr (am_nlq hq ho hq' d5 q0 h0)
      | .retAddr a, h1, h5 => exact absurd h1.1 (by decide)
  | _ => exact False.elim h
theorem am_run {X : am_X} {d y o : Nat} {q : am_Q} {K : am_K} {J : Nat → am_C} {PT : am_PT} (hPT : am_PTok PT) (hJ : ∀ t ls st S M L bc bs, J t ls st S M L bc bs → am_WP X d y t ls st S M L bc bs K) (hq : am_mt[y]? = some q) (ho : am_cn o = q.1.cls) : ∀ (is : List am_E) (pc : Nat) (ls : List (Option Value)) (st : List Value) (S : am_S) (M : am_M) (L : am_L) (bc bs : Nat), am_cks o q is pc = true → am_I X d K PT J is pc ls st S M L bc bs → am_WP X d y pc ls st S M L bc bs K
  | [], pc, ls, st, S, M, L, bc, bs, _, h => hJ _ _ _ _ _ _ _ _ h
  | e :: is, pc, ls, st, S, M, L, bc, bs, hc, h => by
    obtain ⟨h1, h2⟩ := Bool.and_eq_true_iff.mp hc
    exact am_st_ok hPT hJ hq ho e h1 (fun ls st S M L bc bs hh => am_run hPT hJ hq ho is (pc + e.2.1) ls st S M L bc bs h2 hh) h
/-- a method's laid down code is its own -/
def am_own (y o : Nat) (cm : List (Nat × List am_E)) : Prop := ∃ q, am_mt[y]? = some q ∧ am_cn o = q.1.cls ∧ cm.all (fun p => am_cks o q p.2 p.1) = true
theorem am_look {cm : List (Nat × List am_E)} {t : Nat} {is : List am_E} : cm.lookup t = some is → (t, is) ∈ cm := by
  induction cm with
  | nil => intro h; cases h
  | cons p cm ih =>
    intro h
    rw [List.lookup_cons] at h
    split at h
    next e =>
      cases h
      rw [beq_iff_eq.mp e]
      exact List.mem_cons_self
    next => exact List.mem_cons_of_mem _ (ih h)
theorem am_go {X : am_X} {d y o : Nat} {K : am_K} {PT : am_PT} (hPT : am_PTok PT) {cm : List (Nat × List am_E)} (hc : am_own y o cm) : ∀ (n t : Nat) (ls : List (Option Value)) (st : List Value) (S : am_S) (M : am_M) (L : am_L) (bc bs : Nat), am_J X d K PT y cm n t ls st S M L bc bs → am_WP X d y t ls st S M L bc bs K
  | 0, t, ls, st, S, M, L, bc, bs, h => h
  | n + 1, t, ls, st, S, M, L, bc, bs, h => by
    obtain ⟨q, hq, ho, hk⟩ := hc
    unfold am_J at h
    cases hl : cm.lookup t with
    | none => rw [hl] at h; exact h
    | some is =>
      rw [hl] at h
      exact am_run hPT (fun t ls st S M L bc bs hh => am_go hPT ⟨q, hq, ho, hk⟩ n t ls st S M L bc bs hh) hq ho is t ls st S M L bc bs (List.all_eq_true.mp hk _ (am_look hl)) h
