/-! the symbolic run: what it asks for is enough for the judgement -/
def px_kont (l : Launch) (y pc : Nat) (L : px_L) (rest : List Value) (K : px_K) : px_K := fun r h1 mc ms => px_P l y pc L (r.toList ++ rest) h1 (fun r2 h2 a b => K r2 h2 (mc + a) (ms + b))
def px_tg (pc : Nat) (off : Int) (f : Nat → Prop) : Prop := 0 ≤ (pc : Int) + off ∧ f ((pc : Int) + off).toNat
def px_i1 (st : List Value) (f : Int32 → List Value → Prop) : Prop := match st with
  | .int a :: r => f a r
  | _ => False
def px_i2 (st : List Value) (f : Int32 → Int32 → List Value → Prop) : Prop := match st with
  | .int b :: .int a :: r => f a b r
  | _ => False
def px_l1 (st : List Value) (f : Int64 → List Value → Prop) : Prop := match st with
  | .long a :: r => f a r
  | _ => False
def px_l2 (st : List Value) (f : Int64 → Int64 → List Value → Prop) : Prop := match st with
  | .long b :: .long a :: r => f a b r
  | _ => False
def px_il (st : List Value) (f : Int64 → Int32 → List Value → Prop) : Prop := match st with
  | .int b :: .long a :: r => f a b r
  | _ => False
def px_a1 (st : List Value) (f : Nat → List Value → Prop) : Prop := match st with
  | .ref a :: r => f a r
  | _ => False
def px_ia (st : List Value) (f : Nat → Int32 → List Value → Prop) : Prop := match st with
  | .int i :: .ref a :: r => f a i r
  | _ => False
def px_iia (st : List Value) (f : Nat → Int32 → Int32 → List Value → Prop) : Prop := match st with
  | .int x :: .int i :: .ref a :: r => f a i x r
  | _ => False
def px_lki (L : px_L) (i : Nat) (f : Int32 → Prop) : Prop := match px_lk L i with
  | some (.int x) => f x
  | _ => False
def px_lkl (L : px_L) (i : Nat) (f : Int64 → Prop) : Prop := match px_lk L i with
  | some (.long x) => f x
  | _ => False
def px_lka (L : px_L) (i : Nat) (f : Value → Prop) : Prop := match px_lk L i with
  | some (.ref x) => f (.ref x)
  | some .null => f .null
  | _ => False
def px_popn (n : Nat) (acc st : List Value) (f : List Value → List Value → Prop) : Prop := match n, st with
  | 0, st => f acc st
  | n + 1, v :: st => px_popn n (v :: acc) st f
  | _ + 1, [] => False
def px_cat (st : List Value) : Prop := (st.map fun v => v.category).sum ≤ 8
def px_obj (h : px_H) (b ci : Nat) (f : List Value → Prop) : Prop := match h b with
  | some (.inr (c, fs)) => c = ci ∧ f fs
  | _ => False
def px_arr (h : px_H) (b : Nat) (f : Nat → Nat → (Nat → Int32) → Prop) : Prop := match h b with
  | some (.inl (t, n, .inl g)) => f t n g
  | _ => False
def px_arq (h : px_H) (b : Nat) (f : Nat → (Nat → Option Nat) → Prop) : Prop := match h b with
  | some (.inl (t, n, .inr (.inr (.inr (.inr g))))) => t = px_tG ∧ f n g
  | _ => False
def px_rfv (v : Value) (f : Nat → Prop) : Prop := match v with
  | .ref k => f k
  | _ => True
def px_inv (l : Launch) (y y' pc : Nat) (L : px_L) (as rest : List Value) (h : px_H) (K : px_K) : Prop :=
  px_fitc y y' = true ∧ px_hold y' rest L ∧ px_cat rest ∧ px_Ct l y' as h (px_kont l y (pc + 3) L rest K)
def px_step (k : Nat → px_L → List Value → px_H → px_K → Prop) (l : Launch) (y : Nat) (i : Instr) (len pc : Nat) (L : px_L) (st : List Value) (h : px_H) (K : px_K) : Prop := match i with
  | .iconst n => len = 1 ∧ k (pc + 1) L (.int (Int32.ofInt n) :: st) h K
  | .bipush n => len = 2 ∧ -128 ≤ n ∧ n < 128 ∧ k (pc + 2) L (.int (Int32.ofInt n) :: st) h K
  | .sipush n => len = 3 ∧ -32768 ≤ n ∧ n < 32768 ∧ k (pc + 3) L (.int (Int32.ofInt n) :: st) h K
  | .lconst n => len = 1 ∧ k (pc + 1) L (.long (Int64.ofNat (n : Nat)) :: st) h K
  | .aconst_null => len = 1 ∧ k (pc + 1) L (.null :: st) h K
  | .ldc i => len = 2 ∧ (match px_ldc (px_on y) i with | some (v, _) => k (pc + 2) L (.int v :: st) h K | none => False)
  | .ldc2_w i => len = 3 ∧ (match px_l2c (px_on y) i with | some (v, _) => k (pc + 3) L (.long v :: st) h K | none => False)
  | .iload_n n => len = 1 ∧ px_lki L n fun x => k (pc + 1) L (.int x :: st) h K
  | .iload i => len = 2 ∧ px_lki L i fun x => k (pc + 2) L (.int x :: st) h K
  | .lload_n n => len = 1 ∧ px_lkl L n fun x => k (pc + 1) L (.long x :: st) h K
  | .lload i => len = 2 ∧ px_lkl L i fun x => k (pc + 2) L (.long x :: st) h K
  | .aload_n n => len = 1 ∧ px_lka L n fun v => k (pc + 1) L (v :: st) h K
  | .aload i => len = 2 ∧ px_lka L i fun v => k (pc + 2) L (v :: st) h K
  | .istore_n n => len = 1 ∧ (n : Nat) < px_mL y ∧ px_i1 st fun x r => k (pc + 1) (px_sto n (.int x) false L) r h K
  | .istore i => len = 2 ∧ i < px_mL y ∧ px_i1 st fun x r => k (pc + 2) (px_sto i (.int x) false L) r h K
  | .lstore_n n => len = 1 ∧ (n : Nat) + 1 < px_mL y ∧ px_l1 st fun x r => k (pc + 1) (px_sto n (.long x) true L) r h K
  | .lstore i => len = 2 ∧ i + 1 < px_mL y ∧ px_l1 st fun x r => k (pc + 2) (px_sto i (.long x) true L) r h K
  | .astore_n n => len = 1 ∧ (n : Nat) < px_mL y ∧ (match st with | .ref x :: r => k (pc + 1) (px_sto n (.ref x) false L) r h K | .null :: r => k (pc + 1) (px_sto n .null false L) r h K | _ => False)
  | .astore i => len = 2 ∧ i < px_mL y ∧ (match st with | .ref x :: r => k (pc + 2) (px_sto i (.ref x) false L) r h K | .null :: r => k (pc + 2) (px_sto i .null false L) r h K | _ => False)
  | .iinc i n => len = 3 ∧ i < px_mL y ∧ px_lki L i fun x => k (pc + 3) (px_sto i (.int (x + Int32.ofInt n)) false L) st h K
  | .iadd => len = 1 ∧ px_i2 st fun a b r => k (pc + 1) L (.int (a + b) :: r) h K
  | .isub => len = 1 ∧ px_i2 st fun a b r => k (pc + 1) L (.int (a - b) :: r) h K
  | .imul => len = 1 ∧ px_i2 st fun a b r => k (pc + 1) L (.int (a * b) :: r) h K
  | .iand => len = 1 ∧ px_i2 st fun a b r => k (pc + 1) L (.int (a &&& b) :: r) h K
  | .ior => len = 1 ∧ px_i2 st fun a b r => k (pc + 1) L (.int (a ||| b) :: r) h K
  | .ixor => len = 1 ∧ px_i2 st fun a b r => k (pc + 1) L (.int (a ^^^ b) :: r) h K
  | .ishl => len = 1 ∧ px_i2 st fun a b r => k (pc + 1) L (.int (a <<< (b &&& 31)) :: r) h K
  | .ishr => len = 1 ∧ px_i2 st fun a b r => k (pc + 1) L (.int (a >>> (b &&& 31)) :: r) h K
  | .iushr => len = 1 ∧ px_i2 st fun a b r => k (pc + 1) L (.int (a.toUInt32 >>> (b.toUInt32 &&& Int32.toUInt32 31)).toInt32 :: r) h K
  | .idiv => len = 1 ∧ px_i2 st fun a b r => ¬ b = 0 ∧ k (pc + 1) L (.int (a / b) :: r) h K
  | .irem => len = 1 ∧ px_i2 st fun a b r => ¬ b = 0 ∧ k (pc + 1) L (.int (a - a / b * b) :: r) h K
  | .lrem => len = 1 ∧ px_l2 st fun a b r => ¬ b = 0 ∧ k (pc + 1) L (.long (a - a / b * b) :: r) h K
  | .ineg => len = 1 ∧ px_i1 st fun a r => k (pc + 1) L (.int (-a) :: r) h K
  | .ladd => len = 1 ∧ px_l2 st fun a b r => k (pc + 1) L (.long (a + b) :: r) h K
  | .lsub => len = 1 ∧ px_l2 st fun a b r => k (pc + 1) L (.long (a - b) :: r) h K
  | .lmul => len = 1 ∧ px_l2 st fun a b r => k (pc + 1) L (.long (a * b) :: r) h K
  | .land => len = 1 ∧ px_l2 st fun a b r => k (pc + 1) L (.long (a &&& b) :: r) h K
  | .lor => len = 1 ∧ px_l2 st fun a b r => k (pc + 1) L (.long (a ||| b) :: r) h K
  | .lxor => len = 1 ∧ px_l2 st fun a b r => k (pc + 1) L (.long (a ^^^ b) :: r) h K
  | .lshl => len = 1 ∧ px_il st fun a b r => k (pc + 1) L (.long (a <<< (b.toInt64 &&& 63)) :: r) h K
  | .lshr => len = 1 ∧ px_il st fun a b r => k (pc + 1) L (.long (a >>> (b.toInt64 &&& 63)) :: r) h K
  | .lushr => len = 1 ∧ px_il st fun a b r => k (pc + 1) L (.long (a.toUInt64 >>> (b.toInt64.toUInt64 &&& Int64.toUInt64 63)).toInt64 :: r) h K
  | .i2l => len = 1 ∧ px_i1 st fun a r => k (pc + 1) L (.long a.toInt64 :: r) h K
  | .l2i => len = 1 ∧ px_l1 st fun a r => k (pc + 1) L (.int a.toInt32 :: r) h K
  | .i2b => len = 1 ∧ px_i1 st fun a r => k (pc + 1) L (.int a.toInt8.toInt32 :: r) h K
  | .lcmp => len = 1 ∧ px_l2 st fun a b r => k (pc + 1) L (.int (lg_cmp a b) :: r) h K
  | .dup => len = 1 ∧ (match st with | a :: r => a.category = 1 ∧ k (pc + 1) L (a :: a :: r) h K | _ => False)
  | .pop => len = 1 ∧ (match st with | a :: r => a.category = 1 ∧ k (pc + 1) L r h K | _ => False)
  | .dup2 => len = 1 ∧ (match st with | a :: b :: r => a.category = 1 ∧ b.category = 1 ∧ k (pc + 1) L (a :: b :: a :: b :: r) h K | _ => False)
  | .ifCond .eq off => len = 3 ∧ 0 ≤ (pc : Int) + off ∧ px_i1 st fun x r => (x = 0 → k ((pc : Int) + off).toNat L r h K) ∧ (¬ x = 0 → k (pc + 3) L r h K)
  | .ifCond .ne off => len = 3 ∧ 0 ≤ (pc : Int) + off ∧ px_i1 st fun x r => (¬ x = 0 → k ((pc : Int) + off).toNat L r h K) ∧ (x = 0 → k (pc + 3) L r h K)
  | .ifCond .lt off => len = 3 ∧ 0 ≤ (pc : Int) + off ∧ px_i1 st fun x r => (x < 0 → k ((pc : Int) + off).toNat L r h K) ∧ (¬ (x < 0) → k (pc + 3) L r h K)
  | .ifCond .ge off => len = 3 ∧ 0 ≤ (pc : Int) + off ∧ px_i1 st fun x r => (0 ≤ x → k ((pc : Int) + off).toNat L r h K) ∧ (¬ (0 ≤ x) → k (pc + 3) L r h K)
  | .ifCond .gt off => len = 3 ∧ 0 ≤ (pc : Int) + off ∧ px_i1 st fun x r => (0 < x → k ((pc : Int) + off).toNat L r h K) ∧ (¬ (0 < x) → k (pc + 3) L r h K)
  | .ifCond .le off => len = 3 ∧ 0 ≤ (pc : Int) + off ∧ px_i1 st fun x r => (x ≤ 0 → k ((pc : Int) + off).toNat L r h K) ∧ (¬ (x ≤ 0) → k (pc + 3) L r h K)
  | .if_icmp .eq off => len = 3 ∧ 0 ≤ (pc : Int) + off ∧ px_i2 st fun a b r => (a = b → k ((pc : Int) + off).toNat L r h K) ∧ (¬ a = b → k (pc + 3) L r h K)
  | .if_icmp .ne off => len = 3 ∧ 0 ≤ (pc : Int) + off ∧ px_i2 st fun a b r => (¬ a = b → k ((pc : Int) + off).toNat L r h K) ∧ (a = b → k (pc + 3) L r h K)
  | .if_icmp .lt off => len = 3 ∧ 0 ≤ (pc : Int) + off ∧ px_i2 st fun a b r => (a < b → k ((pc : Int) + off).toNat L r h K) ∧ (¬ (a < b) → k (pc + 3) L r h K)
  | .if_icmp .ge off => len = 3 ∧ 0 ≤ (pc : Int) + off ∧ px_i2 st fun a b r => (b ≤ a → k ((pc : Int) + off).toNat L r h K) ∧ (¬ (b ≤ a) → k (pc + 3) L r h K)
  | .if_icmp .gt off => len = 3 ∧ 0 ≤ (pc : Int) + off ∧ px_i2 st fun a b r => (b < a → k ((pc : Int) + off).toNat L r h K) ∧ (¬ (b < a) → k (pc + 3) L r h K)
  | .if_icmp .le off => len = 3 ∧ 0 ≤ (pc : Int) + off ∧ px_i2 st fun a b r => (a ≤ b → k ((pc : Int) + off).toNat L r h K) ∧ (¬ (a ≤ b) → k (pc + 3) L r h K)
  | .goto off => len = 3 ∧ px_tg pc off fun q => k q L st h K
  | .ifnull off => len = 3 ∧ (match st with | .ref _ :: r => k (pc + 3) L r h K | .null :: r => px_tg pc off fun q => k q L r h K | _ => False)
  | .ifnonnull off => len = 3 ∧ (match st with | .ref _ :: r => px_tg pc off fun q => k q L r h K | .null :: r => k (pc + 3) L r h K | _ => False)
  | .tableswitch dflt lo hi offs => px_i1 st fun x r => hi - lo < (offs.size : Int) ∧ ((x.toInt < lo ∨ hi < x.toInt) → px_tg pc dflt fun q => k q L r h K) ∧ ∀ (j : Nat) (off : Int), offs[j]? = some off → x.toInt = lo + (j : Int) → px_tg pc off fun q => k q L r h K
  | .getfield i => len = 3 ∧ px_a1 st fun b r => (match px_fd (px_on y) i with | some (ci, f, _, _) => px_obj h b ci fun fs => (match fs[f]? with | some v => k (pc + 3) L (v :: r) h K | none => False) | none => False)
  | .putfield i => len = 3 ∧ (match st with | v :: .ref b :: r => (match px_fd (px_on y) i with | some (ci, f, kd, _) => px_obj h b ci fun fs => f < fs.length ∧ px_fit (px_ft ci f) v ∧ px_rfv v (fun q => q % 64 = 0 ∨ q = b + 1 + f) ∧ (px_fin ci f = false ∨ (kd = 0 ∧ (px_yn y).name = "<init>" ∧ px_rc (px_on y) = ci ∧ px_on y < 11 ∧ ci ≠ 99)) ∧ k (pc + 3) L r (px_up h b (.inr (ci, fs.set f v))) K | none => False) | _ => False)
  | .getstatic i => len = 3 ∧ (match px_sg (px_on y) i with | some (key, _, _) => k (pc + 3) L (.ref key :: st) h K | none => False)
  | .arraylength => len = 1 ∧ px_a1 st fun b r => (match h b with | some (.inl (t, n, .inl _)) => (t < 4 ∨ (t = px_tS ∧ b < px_S)) ∧ k (pc + 1) L (.int (Int32.ofNat n) :: r) h K | some (.inl (t, n, _)) => t < 4 ∧ k (pc + 1) L (.int (Int32.ofNat n) :: r) h K | _ => False)
  | .iaload => len = 1 ∧ px_ia st fun b i r => px_arr h b fun t n g => (t = px_tI ∨ (t = px_tS ∧ b < px_S)) ∧ vp_in i n ∧ k (pc + 1) L (.int (g i.toNatClampNeg) :: r) h K
  | .baload => len = 1 ∧ px_ia st fun b i r => px_arr h b fun t n g => (t = px_tB ∨ t = px_tZ) ∧ vp_in i n ∧ k (pc + 1) L (.int (g i.toNatClampNeg) :: r) h K
  | .aaload => len = 1 ∧ px_ia st fun b i r => px_arq h b fun n g => vp_in i n ∧ k (pc + 1) L (va_rf (g i.toNatClampNeg) :: r) h K
  | .iastore => len = 1 ∧ px_iia st fun b i x r => px_arr h b fun t n g => t = px_tI ∧ vp_in i n ∧ k (pc + 1) L r (px_up h b (.inl (px_tI, n, .inl (upd g i.toNatClampNeg x)))) K
  | .bastore => len = 1 ∧ px_iia st fun b i x r => px_arr h b fun t n g => vp_in i n ∧ ((t = px_tB ∧ k (pc + 1) L r (px_up h b (.inl (px_tB, n, .inl (upd g i.toNatClampNeg (vp_nar .byte x))))) K) ∨ (t = px_tZ ∧ k (pc + 1) L r (px_up h b (.inl (px_tZ, n, .inl (upd g i.toNatClampNeg (vp_nar .boolean x))))) K))
  | .aastore => len = 1 ∧ (match st with | .ref v :: .int i :: .ref b :: r => px_arq h b fun n g => px_obj h v 3 fun _ => v % 64 = 0 ∧ vp_in i n ∧ k (pc + 1) L r (px_up h b (.inl (px_tG, n, .inr (.inr (.inr (.inr (va_up g i.toNatClampNeg (some v)))))))) K | _ => False)
  | .newarray .byte => len = 2 ∧ px_i1 st fun n r => ¬ n < 0 ∧ n.toNatClampNeg ≤ 100000 ∧ ∃ q, px_S ≤ q ∧ h q = none ∧ k (pc + 2) L (.ref q :: r) (px_up h q (.inl (px_tB, n.toNatClampNeg, .inl (fun _ => 0)))) (fun r h' mc ms => K r h' (mc + 1) (ms + n.toNatClampNeg))
  | .newarray .int => len = 2 ∧ px_i1 st fun n r => ¬ n < 0 ∧ n.toNatClampNeg ≤ 100000 ∧ ∃ q, px_S ≤ q ∧ h q = none ∧ k (pc + 2) L (.ref q :: r) (px_up h q (.inl (px_tI, n.toNatClampNeg, .inl (fun _ => 0)))) (fun r h' mc ms => K r h' (mc + 1) (ms + n.toNatClampNeg))
  | .newarray .boolean => len = 2 ∧ px_i1 st fun n r => ¬ n < 0 ∧ n.toNatClampNeg ≤ 100000 ∧ ∃ q, px_S ≤ q ∧ h q = none ∧ k (pc + 2) L (.ref q :: r) (px_up h q (.inl (px_tZ, n.toNatClampNeg, .inl (fun _ => 0)))) (fun r h' mc ms => K r h' (mc + 1) (ms + n.toNatClampNeg))
  | .anewarray i => len = 3 ∧ px_i1 st fun n r => (px_anc (px_on y) i).isSome = true ∧ ¬ n < 0 ∧ n.toNatClampNeg ≤ 100000 ∧ ∃ q, px_S ≤ q ∧ h q = none ∧ k (pc + 3) L (.ref q :: r) (px_up h q (.inl (px_tG, n.toNatClampNeg, .inr (.inr (.inr (.inr (fun _ => none))))))) (fun r h' mc ms => K r h' (mc + 1) (ms + n.toNatClampNeg))
  | .new i => len = 3 ∧ (match px_nwc (px_on y) i with | some (ci, _, _, _) => ∃ q, px_S ≤ q ∧ q % 64 = 0 ∧ (px_df ci).length ≤ 63 ∧ h q = none ∧ k (pc + 3) L (.ref q :: st) (px_up h q (.inr (ci, px_df ci))) (fun r h' mc ms => K r h' (mc + 1) (ms + px_nf ci)) | none => False)
  | .invokespecial i => len = 3 ∧ (match px_mt (px_on y) i with | some (y', _) => if y' = 901 then (1 ≤ px_dp y ∧ 20 ≤ px_lc y ∧ px_a1 st fun _ r => px_cat r ∧ k (pc + 3) L r h K) else ((px_kw y').1 = 2 ∧ px_popn (px_np y') [] st fun as st1 => px_a1 st1 fun b r => px_inv l y y' pc L (.ref b :: as) r h K) | none => False)
  | .invokestatic i => len = 3 ∧ (match px_mt (px_on y) i with
    | some (y', _) => if y' = 900 then (1 ≤ px_dp y ∧ 26 ≤ px_lc y ∧ (match st with
        | .int n :: .int dp :: .ref b1 :: .int sp :: .ref b0 :: r => px_cat r ∧ px_arr h b0 fun t0 n0 f => px_arr h b1 fun t1 n1 g => t0 = px_tB ∧ t1 = px_tB ∧ ¬ sp < 0 ∧ ¬ dp < 0 ∧ ¬ n < 0 ∧ sp.toNatClampNeg + n.toNatClampNeg ≤ n0 ∧ dp.toNatClampNeg + n.toNatClampNeg ≤ n1 ∧ (∀ j, j < n.toNatClampNeg → fits .byte (.int (f (sp.toNatClampNeg + j))) = true) ∧ k (pc + 3) L r (px_up h b1 (.inl (px_tB, n1, .inl (va_cpy f g sp.toNatClampNeg dp.toNatClampNeg n.toNatClampNeg)))) K
        | _ => False))
      else if y' = 902 then (1 ≤ px_dp y ∧ 23 ≤ px_lc y ∧ px_i2 st fun a b r => px_cat r ∧ k (pc + 3) L (.int (if a < b then b else a) :: r) h K)
      else if y' = 903 then (1 ≤ px_dp y ∧ 23 ≤ px_lc y ∧ px_i2 st fun a b r => px_cat r ∧ k (pc + 3) L (.int (if b < a then b else a) :: r) h K)
      else if y' = 904 then (1 ≤ px_dp y ∧ 23 ≤ px_lc y ∧ px_l2 st fun a b r => px_cat r ∧ k (pc + 3) L (.long (if b < a then a else b) :: r) h K)
      else if y' = 905 then (1 ≤ px_dp y ∧ 23 ≤ px_lc y ∧ px_l2 st fun a b r => px_cat r ∧ k (pc + 3) L (.long (if b < a then b else a) :: r) h K)
      else ((px_kw y').1 = 0 ∧ px_popn (px_np y') [] st fun as r => px_inv l y y' pc L as r h K)
    | none => False)
  | .invokevirtual i => len = 3 ∧ (match px_mt (px_on y) i with | some (y', _) => (px_kw y').1 = 1 ∧ px_rc (px_on y') ≠ 99 ∧ (px_popn (px_np y') [] st fun as st1 => px_a1 st1 fun b r => px_obj h b (px_rc (px_on y')) fun _ => px_inv l y y' pc L (.ref b :: as) r h K) | none => False)
  | .ireturn => len = 1 ∧ (match st with | [.int v] => px_rok (px_rt y) (some (.int v)) ∧ K (some (.int v)) h 0 0 | _ => False)
  | .lreturn => len = 1 ∧ (match st with | [.long v] => px_rok (px_rt y) (some (.long v)) ∧ K (some (.long v)) h 0 0 | _ => False)
  | .areturn => len = 1 ∧ (match st with | [.ref v] => px_rok (px_rt y) (some (.ref v)) ∧ K (some (.ref v)) h 0 0 | [.null] => px_rok (px_rt y) (some .null) ∧ K (some .null) h 0 0 | _ => False)
  | .return_ => len = 1 ∧ (match st with | [] => px_rok (px_rt y) none ∧ K none h 0 0 | _ => False)
  | _ => False
def px_wp (l : Launch) (y : Nat) (sp : List Nat) (n pc : Nat) (L : px_L) (st : List Value) (h : px_H) (K : px_K) : Prop := match n with
  | 0 => px_P l y pc L st h K
  | n + 1 => if sp.contains pc = true then px_P l y pc L st h K else (match decode (px_cd y) pc with
    | .ok (i, len) => px_step (px_wp l y sp n) l y i len pc L st h K
    | .error _ => False)
/-- one step, whatever stops there -/
def px_go (l : Launch) (y : Nat) (sp : List Nat) (n pc : Nat) (L : px_L) (st : List Value) (h : px_H) (K : px_K) : Prop := match decode (px_cd y) pc with
    | .ok (i, len) => px_step (px_wp l y sp n) l y i len pc L st h K
    | .error _ => False
theorem px_i1_inv {st : List Value} {f : Int32 → List Value → Prop} (h : px_i1 st f) : ∃ a r, st = .int a :: r ∧ f a r := by
  unfold px_i1 at h
  split at h
  · exact ⟨_, _, rfl, h⟩
  · exact h.elim
theorem px_i2_inv {st : List Value} {f : Int32 → Int32 → List Value → Prop} (h : px_i2 st f) : ∃ a b r, st = .int b :: .int a :: r ∧ f a b r := by
  unfold px_i2 at h
  split at h
  · exact ⟨_, _, _, rfl, h⟩
  · exact h.elim
theorem px_l1_inv {st : List Value} {f : Int64 → List Value → Prop} (h : px_l1 st f) : ∃ a r, st = .long a :: r ∧ f a r := by
  unfold px_l1 at h
  split at h
  · exact ⟨_, _, rfl, h⟩
  · exact h.elim
theorem px_l2_inv {st : List Value} {f : Int64 → Int64 → List Value → Prop} (h : px_l2 st f) : ∃ a b r, st = .long b :: .long a :: r ∧ f a b r := by
  unfold px_l2 at h
  split at h
  · exact ⟨_, _, _, rfl, h⟩
  · exact h.elim
theorem px_il_inv {st : List Value} {f : Int64 → Int32 → List Value → Prop} (h : px_il st f) : ∃ a b r, st = .int b :: .long a :: r ∧ f a b r := by
  unfold px_il at h
  split at h
  · exact ⟨_, _, _, rfl, h⟩
  · exact h.elim
theorem px_a1_inv {st : List Value} {f : Nat → List Value → Prop} (h : px_a1 st f) : ∃ a r, st = .ref a :: r ∧ f a r := by
  unfold px_a1 at h
  split at h
  · exact ⟨_, _, rfl, h⟩
  · exact h.elim
theorem px_ia_inv {st : List Value} {f : Nat → Int32 → List Value → Prop} (h : px_ia st f) : ∃ a i r, st = .int i :: .ref a :: r ∧ f a i r := by
  unfold px_ia at h
  split at h
  · exact ⟨_, _, _, rfl, h⟩
  · exact h.elim
theorem px_iia_inv {st : List Value} {f : Nat → Int32 → Int32 → List Value → Prop} (h : px_iia st f) : ∃ a i x r, st = .int x :: .int i :: .ref a :: r ∧ f a i x r := by
  unfold px_iia at h
  split at h
  · exact ⟨_, _, _, _, rfl, h⟩
  · exact h.elim
theorem px_lki_inv {L : px_L} {i : Nat} {f : Int32 → Prop} (h : px_lki L i f) : ∃ x, px_lk L i = some (.int x) ∧ f x := by
  unfold px_lki at h
  split at h
  · rename_i x e; exact ⟨x, e, h⟩
  · exact h.elim
theorem px_lkl_inv {L : px_L} {i : Nat} {f : Int64 → Prop} (h : px_lkl L i f) : ∃ x, px_lk L i = some (.long x) ∧ f x := by
  unfold px_lkl at h
  split at h
  · rename_i x e; exact ⟨x, e, h⟩
  · exact h.elim
theorem px_lka_inv {L : px_L} {i : Nat} {f : Value → Prop} (h : px_lka L i f) : (∃ x, px_lk L i = some (.ref x) ∧ f (.ref x)) ∨ (px_lk L i = some .null ∧ f .null) := by
  unfold px_lka at h
  split at h
  · rename_i x e; exact Or.inl ⟨x, e, h⟩
  · rename_i e; exact Or.inr ⟨e, h⟩
  · exact h.elim
theorem px_tg_inv {pc : Nat} {off : Int} {f : Nat → Prop} (h : px_tg pc off f) : ∃ q : Nat, (pc : Int) + off = (q : Int) ∧ f q := ⟨((pc : Int) + off).toNat, (Int.toNat_of_nonneg h.1).symm, h.2⟩
theorem px_popn_inv : ∀ {n : Nat} {acc st : List Value} {f : List Value → List Value → Prop}, px_popn n acc st f → ∃ as rest, as.length = n ∧ st = as.reverse ++ rest ∧ f (as ++ acc) rest
  | 0, acc, st, f, h => ⟨[], st, rfl, rfl, h⟩
  | n + 1, acc, v :: st, f, h => by
    obtain ⟨as, rest, h1, h2, h3⟩ := px_popn_inv (n := n) (acc := v :: acc) (st := st) (f := f) h
    exact ⟨as ++ [v], rest, by simp [h1], by simp [h2], by simpa using h3⟩
  | n + 1, acc, [], f, h => h.elim
theorem px_obj_inv {h : px_H} {b ci : Nat} {f : List Value → Prop} (hh : px_obj h b ci f) : ∃ fs, h b = some (.inr (ci, fs)) ∧ f fs := by
  unfold px_obj at hh
  split at hh
  · rename_i c fs e
    obtain ⟨rfl, h2⟩ := hh
    exact ⟨fs, e, h2⟩
  · exact hh.elim
theorem px_arr_inv {h : px_H} {b : Nat} {f : Nat → Nat → (Nat → Int32) → Prop} (hh : px_arr h b f) : ∃ t n g, h b = some (.inl (t, n, .inl g)) ∧ f t n g := by
  unfold px_arr at hh
  split at hh
  · rename_i t n g e; exact ⟨t, n, g, e, hh⟩
  · exact hh.elim
theorem px_arq_inv {h : px_H} {b : Nat} {f : Nat → (Nat → Option Nat) → Prop} (hh : px_arq h b f) : ∃ n g, h b = some (.inl (px_tG, n, .inr (.inr (.inr (.inr g))))) ∧ f n g := by
  unfold px_arq at hh
  split at hh
  · rename_i t n g e
    obtain ⟨rfl, h2⟩ := hh
    exact ⟨n, g, e, h2⟩
  · exact hh.elim
theorem px_cn_of {y ci : Nat} (h1 : px_rc (px_on y) = ci) (h2 : px_on y < 11) (h3 : ci ≠ 99) : ∀ C T N, px_cl[ci]? = some (C, T, N) → C = px_cn (px_on y) := by
  intro C T N hc
  have h4 := px_rc_ok (px_on y) h2 (by rw [h1]; exact h3)
  rw [h1, hc] at h4
  exact Option.some.inj h4
theorem px_kw_eta (y : Nat) {k : Nat} (h : (px_kw y).1 = k) : px_kw y = (k, (px_kw y).2.1, (px_kw y).2.2.1, (px_kw y).2.2.2) := by rw [← h]
section PXS
variable {l : Launch} {y pc len : Nat} {L : px_L} {st : List Value} {h : px_H} {K : px_K} {k : Nat → px_L → List Value → px_H → px_K → Prop}
set_option maxHeartbeats 4000000 in
theorem px_step_ok (hk : ∀ pc L st h K, k pc L st h K → px_P l y pc L st h K) {i : Instr} (hd : decode (px_cd y) pc = .ok (i, len)) (hs : px_step k l y i len pc L st h K) : px_P l y pc L st h K := by
  cases i with
  | iconst n =>
    obtain ⟨rfl, h1⟩ := hs; exact px_iconst hd (hk _ _ _ _ _ h1)
  | bipush n =>
    obtain ⟨rfl, h1⟩ := hs; exact px_bipush hd h1.1 h1.2.1 (hk _ _ _ _ _ h1.2.2)
  | sipush n =>
    obtain ⟨rfl, h1⟩ := hs; exact px_sipush hd h1.1 h1.2.1 (hk _ _ _ _ _ h1.2.2)
  | lconst n =>
    obtain ⟨rfl, h1⟩ := hs; exact px_lconst hd (hk _ _ _ _ _ h1)
  | aconst_null =>
    obtain ⟨rfl, h1⟩ := hs; exact px_null hd (hk _ _ _ _ _ h1)
  | ldc i =>
    obtain ⟨rfl, h1⟩ := hs
    split at h1
    · rename_i v ps e; exact px_ildc hd e (hk _ _ _ _ _ h1)
    · exact h1.elim
  | ldc2_w i =>
    obtain ⟨rfl, h1⟩ := hs
    split at h1
    · rename_i v ps e; exact px_ildc2 hd e (hk _ _ _ _ _ h1)
    · exact h1.elim
  | iload_n n =>
    obtain ⟨rfl, h1⟩ := hs; obtain ⟨x, e, h2⟩ := px_lki_inv h1; exact px_iload_n hd e (hk _ _ _ _ _ h2)
  | iload i =>
    obtain ⟨rfl, h1⟩ := hs; obtain ⟨x, e, h2⟩ := px_lki_inv h1; exact px_iload hd e (hk _ _ _ _ _ h2)
  | lload_n n =>
    obtain ⟨rfl, h1⟩ := hs; obtain ⟨x, e, h2⟩ := px_lkl_inv h1; exact px_lload_n hd e (hk _ _ _ _ _ h2)
  | lload i =>
    obtain ⟨rfl, h1⟩ := hs; obtain ⟨x, e, h2⟩ := px_lkl_inv h1; exact px_lload hd e (hk _ _ _ _ _ h2)
  | aload_n n =>
    obtain ⟨rfl, h1⟩ := hs
    rcases px_lka_inv h1 with ⟨x, e, h2⟩ | ⟨e, h2⟩
    · exact px_aload_n hd e (hk _ _ _ _ _ h2)
    · exact px_aload_nN hd e (hk _ _ _ _ _ h2)
  | aload i =>
    obtain ⟨rfl, h1⟩ := hs
    rcases px_lka_inv h1 with ⟨x, e, h2⟩ | ⟨e, h2⟩
    · exact px_aload hd e (hk _ _ _ _ _ h2)
    · exact px_aloadN hd e (hk _ _ _ _ _ h2)
  | istore_n n =>
    obtain ⟨rfl, h1⟩ := hs; obtain ⟨x, r, rfl, h2⟩ := px_i1_inv h1.2; exact px_istore_n hd h1.1 (hk _ _ _ _ _ h2)
  | istore i =>
    obtain ⟨rfl, h1⟩ := hs; obtain ⟨x, r, rfl, h2⟩ := px_i1_inv h1.2; exact px_istore hd h1.1 (hk _ _ _ _ _ h2)
  | lstore_n n =>
    obtain ⟨rfl, h1⟩ := hs; obtain ⟨x, r, rfl, h2⟩ := px_l1_inv h1.2; exact px_lstore_n hd h1.1 (hk _ _ _ _ _ h2)
  | lstore i =>
    obtain ⟨rfl, h1⟩ := hs; obtain ⟨x, r, rfl, h2⟩ := px_l1_inv h1.2; exact px_lstore hd h1.1 (hk _ _ _ _ _ h2)
  | astore_n n =>
    obtain ⟨rfl, h1⟩ := hs; obtain ⟨h0, h1⟩ := h1
    split at h1
    · exact px_astore_n hd h0 (hk _ _ _ _ _ h1)
    · exact px_astore_nN hd h0 (hk _ _ _ _ _ h1)
    · exact h1.elim
  | astore i =>
    obtain ⟨rfl, h1⟩ := hs; obtain ⟨h0, h1⟩ := h1
    split at h1
    · exact px_astore hd h0 (hk _ _ _ _ _ h1)
    · exact px_astoreN hd h0 (hk _ _ _ _ _ h1)
    · exact h1.elim
  | iinc i n =>
    obtain ⟨rfl, h1⟩ := hs; obtain ⟨x, e, h2⟩ := px_lki_inv h1.2; exact px_iinc hd e h1.1 (hk _ _ _ _ _ h2)
  | iadd =>
    obtain ⟨rfl, h1⟩ := hs; obtain ⟨a, b, r, rfl, h2⟩ := px_i2_inv h1; exact px_iadd hd (hk _ _ _ _ _ h2)
  | isub =>
    obtain ⟨rfl, h1⟩ := hs; obtain ⟨a, b, r, rfl, h2⟩ := px_i2_inv h1; exact px_isub hd (hk _ _ _ _ _ h2)
  | imul =>
    obtain ⟨rfl, h1⟩ := hs; obtain ⟨a, b, r, rfl, h2⟩ := px_i2_inv h1; exact px_imul hd (hk _ _ _ _ _ h2)
  | iand =>
    obtain ⟨rfl, h1⟩ := hs; obtain ⟨a, b, r, rfl, h2⟩ := px_i2_inv h1; exact px_iand hd (hk _ _ _ _ _ h2)
  | ior =>
    obtain ⟨rfl, h1⟩ := hs; obtain ⟨a, b, r, rfl, h2⟩ := px_i2_inv h1; exact px_ior hd (hk _ _ _ _ _ h2)
  | ixor =>
    obtain ⟨rfl, h1⟩ := hs; obtain ⟨a, b, r, rfl, h2⟩ := px_i2_inv h1; exact px_ixor hd (hk _ _ _ _ _ h2)
  | ishl =>
    obtain ⟨rfl, h1⟩ := hs; obtain ⟨a, b, r, rfl, h2⟩ := px_i2_inv h1; exact px_ishl hd (hk _ _ _ _ _ h2)
  | ishr =>
    obtain ⟨rfl, h1⟩ := hs; obtain ⟨a, b, r, rfl, h2⟩ := px_i2_inv h1; exact px_ishr hd (hk _ _ _ _ _ h2)
  | iushr =>
    obtain ⟨rfl, h1⟩ := hs; obtain ⟨a, b, r, rfl, h2⟩ := px_i2_inv h1; exact px_iushr hd (hk _ _ _ _ _ h2)
  | idiv =>
    obtain ⟨rfl, h1⟩ := hs; obtain ⟨a, b, r, rfl, h2⟩ := px_i2_inv h1; exact px_idiv hd h2.1 (hk _ _ _ _ _ h2.2)
  | irem =>
    obtain ⟨rfl, h1⟩ := hs; obtain ⟨a, b, r, rfl, h2⟩ := px_i2_inv h1; exact px_irem hd h2.1 (hk _ _ _ _ _ h2.2)
  | lrem =>
    obtain ⟨rfl, h1⟩ := hs; obtain ⟨a, b, r, rfl, h2⟩ := px_l2_inv h1; exact px_lrem hd h2.1 (hk _ _ _ _ _ h2.2)
  | ladd =>
    obtain ⟨rfl, h1⟩ := hs; obtain ⟨a, b, r, rfl, h2⟩ := px_l2_inv h1; exact px_ladd hd (hk _ _ _ _ _ h2)
  | lsub =>
    obtain ⟨rfl, h1⟩ := hs; obtain ⟨a, b, r, rfl, h2⟩ := px_l2_inv h1; exact px_lsub hd (hk _ _ _ _ _ h2)
  | lmul =>
    obtain ⟨rfl, h1⟩ := hs; obtain ⟨a, b, r, rfl, h2⟩ := px_l2_inv h1; exact px_lmul hd (hk _ _ _ _ _ h2)
  | land =>
    obtain ⟨rfl, h1⟩ := hs; obtain ⟨a, b, r, rfl, h2⟩ := px_l2_inv h1; exact px_land hd (hk _ _ _ _ _ h2)
  | lor =>
    obtain ⟨rfl, h1⟩ := hs; obtain ⟨a, b, r, rfl, h2⟩ := px_l2_inv h1; exact px_lor hd (hk _ _ _ _ _ h2)
  | lxor =>
    obtain ⟨rfl, h1⟩ := hs; obtain ⟨a, b, r, rfl, h2⟩ := px_l2_inv h1; exact px_lxor hd (hk _ _ _ _ _ h2)
  | lcmp =>
    obtain ⟨rfl, h1⟩ := hs; obtain ⟨a, b, r, rfl, h2⟩ := px_l2_inv h1; exact px_lcmp hd (hk _ _ _ _ _ h2)
  | lshl =>
    obtain ⟨rfl, h1⟩ := hs; obtain ⟨a, b, r, rfl, h2⟩ := px_il_inv h1; exact px_lshl hd (hk _ _ _ _ _ h2)
  | lshr =>
    obtain ⟨rfl, h1⟩ := hs; obtain ⟨a, b, r, rfl, h2⟩ := px_il_inv h1; exact px_lshr hd (hk _ _ _ _ _ h2)
  | lushr =>
    obtain ⟨rfl, h1⟩ := hs; obtain ⟨a, b, r, rfl, h2⟩ := px_il_inv h1; exact px_lushr hd (hk _ _ _ _ _ h2)
  | ineg =>
    obtain ⟨rfl, h1⟩ := hs; obtain ⟨a, r, rfl, h2⟩ := px_i1_inv h1; exact px_ineg hd (hk _ _ _ _ _ h2)
  | i2l =>
    obtain ⟨rfl, h1⟩ := hs; obtain ⟨a, r, rfl, h2⟩ := px_i1_inv h1; exact px_i2l hd (hk _ _ _ _ _ h2)
  | i2b =>
    obtain ⟨rfl, h1⟩ := hs; obtain ⟨a, r, rfl, h2⟩ := px_i1_inv h1; exact px_i2b hd (hk _ _ _ _ _ h2)
  | l2i =>
    obtain ⟨rfl, h1⟩ := hs; obtain ⟨a, r, rfl, h2⟩ := px_l1_inv h1; exact px_l2i hd (hk _ _ _ _ _ h2)
  | dup =>
    obtain ⟨rfl, h1⟩ := hs
    split at h1
    · exact px_dup hd h1.1 (hk _ _ _ _ _ h1.2)
    · exact h1.elim
  | pop =>
    obtain ⟨rfl, h1⟩ := hs
    split at h1
    · exact px_pop hd h1.1 (hk _ _ _ _ _ h1.2)
    · exact h1.elim
  | dup2 =>
    obtain ⟨rfl, h1⟩ := hs
    split at h1
    · exact px_dup2 hd h1.1 h1.2.1 (hk _ _ _ _ _ h1.2.2)
    · exact h1.elim
  | ifCond c off =>
    cases c with
    | eq =>
      obtain ⟨rfl, h1⟩ := hs
      obtain ⟨hq, h1⟩ := h1
      obtain ⟨x, r, rfl, h2, h3⟩ := px_i1_inv h1
      exact px_if_eq hd (Int.toNat_of_nonneg hq).symm (fun q => hk _ _ _ _ _ (h2 q)) (fun q => hk _ _ _ _ _ (h3 q))
    | ne =>
      obtain ⟨rfl, h1⟩ := hs
      obtain ⟨hq, h1⟩ := h1
      obtain ⟨x, r, rfl, h2, h3⟩ := px_i1_inv h1
      exact px_if_ne hd (Int.toNat_of_nonneg hq).symm (fun q => hk _ _ _ _ _ (h2 q)) (fun q => hk _ _ _ _ _ (h3 q))
    | lt =>
      obtain ⟨rfl, h1⟩ := hs
      obtain ⟨hq, h1⟩ := h1
      obtain ⟨x, r, rfl, h2, h3⟩ := px_i1_inv h1
      exact px_if_lt hd (Int.toNat_of_nonneg hq).symm (fun q => hk _ _ _ _ _ (h2 q)) (fun q => hk _ _ _ _ _ (h3 q))
    | ge =>
      obtain ⟨rfl, h1⟩ := hs
      obtain ⟨hq, h1⟩ := h1
      obtain ⟨x, r, rfl, h2, h3⟩ := px_i1_inv h1
      exact px_if_ge hd (Int.toNat_of_nonneg hq).symm (fun q => hk _ _ _ _ _ (h2 q)) (fun q => hk _ _ _ _ _ (h3 q))
    | gt =>
      obtain ⟨rfl, h1⟩ := hs
      obtain ⟨hq, h1⟩ := h1
      obtain ⟨x, r, rfl, h2, h3⟩ := px_i1_inv h1
      exact px_if_gt hd (Int.toNat_of_nonneg hq).symm (fun q => hk _ _ _ _ _ (h2 q)) (fun q => hk _ _ _ _ _ (h3 q))
    | le =>
      obtain ⟨rfl, h1⟩ := hs
      obtain ⟨hq, h1⟩ := h1
      obtain ⟨x, r, rfl, h2, h3⟩ := px_i1_inv h1
      exact px_if_le hd (Int.toNat_of_nonneg hq).symm (fun q => hk _ _ _ _ _ (h2 q)) (fun q => hk _ _ _ _ _ (h3 q))
  | if_icmp c off =>
    cases c with
    | eq =>
      obtain ⟨rfl, h1⟩ := hs
      obtain ⟨hq, h1⟩ := h1
      obtain ⟨a, b, r, rfl, h2, h3⟩ := px_i2_inv h1
      exact px_icmp_eq hd (Int.toNat_of_nonneg hq).symm (fun q => hk _ _ _ _ _ (h2 q)) (fun q => hk _ _ _ _ _ (h3 q))
    | ne =>
      obtain ⟨rfl, h1⟩ := hs
      obtain ⟨hq, h1⟩ := h1
      obtain ⟨a, b, r, rfl, h2, h3⟩ := px_i2_inv h1
      exact px_icmp_ne hd (Int.toNat_of_nonneg hq).symm (fun q => hk _ _ _ _ _ (h2 q)) (fun q => hk _ _ _ _ _ (h3 q))
    | lt =>
      obtain ⟨rfl, h1⟩ := hs
      obtain ⟨hq, h1⟩ := h1
      obtain ⟨a, b, r, rfl, h2, h3⟩ := px_i2_inv h1
      exact px_icmp_lt hd (Int.toNat_of_nonneg hq).symm (fun q => hk _ _ _ _ _ (h2 q)) (fun q => hk _ _ _ _ _ (h3 q))
    | ge =>
      obtain ⟨rfl, h1⟩ := hs
      obtain ⟨hq, h1⟩ := h1
      obtain ⟨a, b, r, rfl, h2, h3⟩ := px_i2_inv h1
      exact px_icmp_ge hd (Int.toNat_of_nonneg hq).symm (fun q => hk _ _ _ _ _ (h2 q)) (fun q => hk _ _ _ _ _ (h3 q))
    | gt =>
      obtain ⟨rfl, h1⟩ := hs
      obtain ⟨hq, h1⟩ := h1
      obtain ⟨a, b, r, rfl, h2, h3⟩ := px_i2_inv h1
      exact px_icmp_gt hd (Int.toNat_of_nonneg hq).symm (fun q => hk _ _ _ _ _ (h2 q)) (fun q => hk _ _ _ _ _ (h3 q))
    | le =>
      obtain ⟨rfl, h1⟩ := hs
      obtain ⟨hq, h1⟩ := h1
      obtain ⟨a, b, r, rfl, h2, h3⟩ := px_i2_inv h1
      exact px_icmp_le hd (Int.toNat_of_nonneg hq).symm (fun q => hk _ _ _ _ _ (h2 q)) (fun q => hk _ _ _ _ _ (h3 q))
  | goto off =>
    obtain ⟨rfl, h1⟩ := hs; obtain ⟨q, e, h2⟩ := px_tg_inv h1; exact px_goto hd e (hk _ _ _ _ _ h2)
  | ifnull off =>
    obtain ⟨rfl, h1⟩ := hs
    split at h1
    · exact px_ifnull hd (hk _ _ _ _ _ h1)
    · obtain ⟨q, e, h2⟩ := px_tg_inv h1; exact px_ifnullN hd e (hk _ _ _ _ _ h2)
    · exact h1.elim
  | ifnonnull off =>
    obtain ⟨rfl, h1⟩ := hs
    split at h1
    · obtain ⟨q, e, h2⟩ := px_tg_inv h1; exact px_ifnonnull hd e (hk _ _ _ _ _ h2)
    · exact px_ifnonnullN hd (hk _ _ _ _ _ h1)
    · exact h1.elim
  | tableswitch dflt lo hi offs =>
    obtain ⟨x, r, rfl, h0, h2, h3⟩ := px_i1_inv hs
    by_cases ho : x.toInt < lo ∨ hi < x.toInt
    · obtain ⟨q, e, h4⟩ := px_tg_inv (h2 ho)
      exact px_tableOut hd ho e (hk _ _ _ _ _ h4)
    · have n1 : ¬ x.toInt < lo := fun q => ho (Or.inl q)
      have n2 : ¬ hi < x.toInt := fun q => ho (Or.inr q)
      have n3 : (x.toInt - lo).toNat < offs.size := by omega
      obtain ⟨q, e, h4⟩ := px_tg_inv (h3 _ offs[(x.toInt - lo).toNat] (Array.getElem?_eq_getElem n3) (by omega))
      exact px_tableIn hd n1 n2 (Array.getElem?_eq_getElem n3) e (hk _ _ _ _ _ h4)
  | getfield i =>
    obtain ⟨rfl, h1⟩ := hs; obtain ⟨b, r, rfl, h2⟩ := px_a1_inv h1
    split at h2
    · rename_i ci f kd ps e
      obtain ⟨fs, hb, h3⟩ := px_obj_inv h2
      split at h3
      · rename_i v ev; exact px_getfield hd e hb ev (hk _ _ _ _ _ h3)
      · exact h3.elim
    · exact h2.elim
  | putfield i =>
    obtain ⟨rfl, h1⟩ := hs
    split at h1
    · rename_i v b r
      split at h1
      · rename_i ci f kd ps e
        obtain ⟨fs, hb, h3, h4, h5, h6, h7⟩ := px_obj_inv h1
        have hrf : ∀ k, v = .ref k → k % 64 = 0 ∨ k = b + 1 + f := fun k ek => by subst ek; exact h5
        rcases h6 with h6 | ⟨z1, z2, z3, z4, z5⟩
        · exact px_putfield hd e h6 hb h3 h4 hrf (hk _ _ _ _ _ h7)
        · cases hfn : px_fin ci f with
          | false => exact px_putfield hd e hfn hb h3 h4 hrf (hk _ _ _ _ _ h7)
          | true => exact px_putfieldF hd e hfn z1 z2 (px_cn_of z3 z4 z5) hb h3 h4 hrf (hk _ _ _ _ _ h7)
      · exact h1.elim
    · exact h1.elim
  | getstatic i =>
    obtain ⟨rfl, h1⟩ := hs
    split at h1
    · rename_i key kd ps e; exact px_getstatic hd e (hk _ _ _ _ _ h1)
    · exact h1.elim
  | arraylength =>
    obtain ⟨rfl, h1⟩ := hs; obtain ⟨b, r, rfl, h2⟩ := px_a1_inv h1
    split at h2
    · rename_i t n g e
      rcases h2.1 with h3 | ⟨h3, h4⟩
      · exact px_alen hd e h3 (hk _ _ _ _ _ h2.2)
      · subst h3; exact px_alenS hd e h4 (hk _ _ _ _ _ h2.2)
    · rename_i t n g _ e; exact px_alen hd e h2.1 (hk _ _ _ _ _ h2.2)
    · exact h2.elim
  | iaload =>
    obtain ⟨rfl, h1⟩ := hs; obtain ⟨b, i, r, rfl, h2⟩ := px_ia_inv h1
    obtain ⟨t, n, g, e, h3, h4, h5⟩ := px_arr_inv h2
    rcases h3 with rfl | ⟨rfl, h6⟩
    · exact px_iaload hd e h4 (hk _ _ _ _ _ h5)
    · exact px_ialoadS hd e h6 h4 (hk _ _ _ _ _ h5)
  | baload =>
    obtain ⟨rfl, h1⟩ := hs; obtain ⟨b, i, r, rfl, h2⟩ := px_ia_inv h1
    obtain ⟨t, n, g, e, h3, h4, h5⟩ := px_arr_inv h2
    rcases h3 with rfl | rfl
    · exact px_baload hd e h4 (hk _ _ _ _ _ h5)
    · exact px_zaload hd e h4 (hk _ _ _ _ _ h5)
  | aaload =>
    obtain ⟨rfl, h1⟩ := hs; obtain ⟨b, i, r, rfl, h2⟩ := px_ia_inv h1
    obtain ⟨n, g, e, h4, h5⟩ := px_arq_inv h2
    exact px_aaload hd e h4 (hk _ _ _ _ _ h5)
  | iastore =>
    obtain ⟨rfl, h1⟩ := hs; obtain ⟨b, i, x, r, rfl, h2⟩ := px_iia_inv h1
    obtain ⟨t, n, g, e, rfl, h4, h5⟩ := px_arr_inv h2
    exact px_iastore hd e h4 (hk _ _ _ _ _ h5)
  | bastore =>
    obtain ⟨rfl, h1⟩ := hs; obtain ⟨b, i, x, r, rfl, h2⟩ := px_iia_inv h1
    obtain ⟨t, n, g, e, h4, h5⟩ := px_arr_inv h2
    rcases h5 with ⟨rfl, h5⟩ | ⟨rfl, h5⟩
    · exact px_bastore hd e h4 (hk _ _ _ _ _ h5)
    · exact px_zastore hd e h4 (hk _ _ _ _ _ h5)
  | aastore =>
    obtain ⟨rfl, h1⟩ := hs
    split at h1
    · obtain ⟨n, g, e, h2⟩ := px_arq_inv h1
      obtain ⟨vs, e2, h3, h4, h5⟩ := px_obj_inv h2
      exact px_aastore hd e e2 h3 h4 (hk _ _ _ _ _ h5)
    · exact h1.elim
  | newarray at_ =>
    cases at_ with
    | byte =>
      obtain ⟨rfl, h1⟩ := hs; obtain ⟨n, r, rfl, h2, h3, q, h4, h5, h6⟩ := px_i1_inv h1; exact px_newB hd h2 h3 h4 h5 (hk _ _ _ _ _ h6)
    | int =>
      obtain ⟨rfl, h1⟩ := hs; obtain ⟨n, r, rfl, h2, h3, q, h4, h5, h6⟩ := px_i1_inv h1; exact px_newI hd h2 h3 h4 h5 (hk _ _ _ _ _ h6)
    | boolean =>
      obtain ⟨rfl, h1⟩ := hs; obtain ⟨n, r, rfl, h2, h3, q, h4, h5, h6⟩ := px_i1_inv h1; exact px_newZ hd h2 h3 h4 h5 (hk _ _ _ _ _ h6)
    | _ => exact hs.elim
  | anewarray i =>
    obtain ⟨rfl, h1⟩ := hs; obtain ⟨n, r, rfl, h0, h2, h3, q, h4, h5, h6⟩ := px_i1_inv h1
    obtain ⟨ps, hps⟩ := Option.isSome_iff_exists.mp h0
    exact px_newG hd hps h2 h3 h4 h5 (hk _ _ _ _ _ h6)
  | new i =>
    obtain ⟨rfl, h1⟩ := hs
    split at h1
    · rename_i ci p1 p2 p3 e; obtain ⟨q, h2, h3, h4, h5, h6⟩ := h1; exact px_new hd e h2 h3 h4 h5 (hk _ _ _ _ _ h6)
    · exact h1.elim
  | invokespecial i =>
    obtain ⟨rfl, h1⟩ := hs
    split at h1
    · rename_i y' ps e
      split at h1
      · rename_i e9
        subst e9
        obtain ⟨h2, h3, h4⟩ := h1
        obtain ⟨b, r, rfl, h5, h6⟩ := px_a1_inv h4
        exact px_objInit hd e h2 h3 h5 (hk _ _ _ _ _ h6)
      · obtain ⟨h2, h3⟩ := h1
        obtain ⟨as, rest, h4, rfl, h5⟩ := px_popn_inv h3
        rw [List.append_nil] at h5
        obtain ⟨b, r, rfl, f1, f2, f3, f4⟩ := px_a1_inv h5
        exact px_callI hd e (px_kw_eta y' h2) f1 h4 f2 f3 rfl f4
    · exact h1.elim
  | invokevirtual i =>
    obtain ⟨rfl, h1⟩ := hs
    split at h1
    · rename_i y' ps e
      obtain ⟨h2, h9, h3⟩ := h1
      obtain ⟨as, rest, h4, rfl, h5⟩ := px_popn_inv h3
      rw [List.append_nil] at h5
      obtain ⟨b, r, rfl, h6⟩ := px_a1_inv h5
      obtain ⟨fs, hb, f1, f2, f3, f4⟩ := px_obj_inv h6
      exact px_callV hd e (px_kw_eta y' h2) f1 h4 hb h9 f2 f3 rfl f4
    · exact h1.elim
  | invokestatic i =>
    obtain ⟨rfl, h1⟩ := hs
    split at h1
    · rename_i y' ps e
      split at h1
      · rename_i e9
        subst e9
        obtain ⟨h2, h3, h4⟩ := h1
        split at h4
        · obtain ⟨h5, h6⟩ := h4
          obtain ⟨t0, n0, f, e0, h7⟩ := px_arr_inv h6
          obtain ⟨t1, n1, g, e1, rfl, rfl, z1, z2, z3, z4, z5, z6, z7⟩ := px_arr_inv h7
          exact px_copyB hd e h2 h3 h5 e0 e1 z1 z2 z3 z4 z5 z6 (hk _ _ _ _ _ z7)
        · exact h4.elim
      split at h1
      · rename_i e9
        subst e9
        obtain ⟨h2, h3, h4⟩ := h1
        obtain ⟨a, b, r, rfl, h5, h6⟩ := px_i2_inv h4
        exact px_mmax hd e h2 h3 h5 (hk _ _ _ _ _ h6)
      split at h1
      · rename_i e9
        subst e9
        obtain ⟨h2, h3, h4⟩ := h1
        obtain ⟨a, b, r, rfl, h5, h6⟩ := px_i2_inv h4
        exact px_mmin hd e h2 h3 h5 (hk _ _ _ _ _ h6)
      split at h1
      · rename_i e9
        subst e9
        obtain ⟨h2, h3, h4⟩ := h1
        obtain ⟨a, b, r, rfl, h5, h6⟩ := px_l2_inv h4
        exact px_mmaxL hd e h2 h3 h5 (hk _ _ _ _ _ h6)
      split at h1
      · rename_i e9
        subst e9
        obtain ⟨h2, h3, h4⟩ := h1
        obtain ⟨a, b, r, rfl, h5, h6⟩ := px_l2_inv h4
        exact px_mminL hd e h2 h3 h5 (hk _ _ _ _ _ h6)
      obtain ⟨h2, h3⟩ := h1
      obtain ⟨as, rest, h4, rfl, h5⟩ := px_popn_inv h3
      rw [List.append_nil] at h5
      obtain ⟨f1, f2, f3, f4⟩ := h5
      exact px_callS hd e (px_kw_eta y' h2) f1 h4 f2 f3 rfl f4
    · exact h1.elim
  | ireturn =>
    obtain ⟨rfl, h1⟩ := hs
    split at h1
    · exact px_ret (r := some (.int _)) ⟨h1.1, hd⟩ rfl h1.2
    · exact h1.elim
  | lreturn =>
    obtain ⟨rfl, h1⟩ := hs
    split at h1
    · exact px_ret (r := some (.long _)) ⟨h1.1, hd⟩ rfl h1.2
    · exact h1.elim
  | areturn =>
    obtain ⟨rfl, h1⟩ := hs
    split at h1
    · exact px_ret (r := some (.ref _)) ⟨h1.1, hd⟩ rfl h1.2
    · exact px_ret (r := some .null) ⟨h1.1, hd⟩ rfl h1.2
    · exact h1.elim
  | return_ =>
    obtain ⟨rfl, h1⟩ := hs
    split at h1
    · exact px_ret (r := none) ⟨h1.1, hd⟩ rfl h1.2
    · exact h1.elim
  | _ => exact hs.elim
theorem px_wp_ok {sp : List Nat} : ∀ (n : Nat) (pc : Nat) (L : px_L) (st : List Value) (h : px_H) (K : px_K), px_wp l y sp n pc L st h K → px_P l y pc L st h K
  | 0, _, _, _, _, _, hs => hs
  | n + 1, pc, L, st, h, K, hs => by
    unfold px_wp at hs
    split at hs
    · exact hs
    · split at hs
      · rename_i i len e
        exact px_step_ok (px_wp_ok n) e hs
      · exact hs.elim
theorem px_go_ok {sp : List Nat} (n : Nat) (hs : px_go l y sp n pc L st h K) : px_P l y pc L st h K := by
  unfold px_go at hs
  split at hs
  · rename_i i len e
    exact px_step_ok (px_wp_ok n) e hs
  · exact hs.elim
end PXS
