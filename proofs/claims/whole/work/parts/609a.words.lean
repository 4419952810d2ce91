/-! each word applied -/
theorem a_push (v : Value) (k : pu_K) (ls : pu_L) (st : List Value) (M : pu_M) : s_push v k ls st M = (k ls (v :: st) M) := rfl
theorem a_ild (i : Nat) (k : pu_K) (ls : pu_L) (st : List Value) (M : pu_M) : s_ild i k ls st M = (match ls[i]? with
  | some (some (.int x)) => k ls (.int x :: st) M
  | _ => none) := rfl
theorem a_lld (i : Nat) (k : pu_K) (ls : pu_L) (st : List Value) (M : pu_M) : s_lld i k ls st M = (match ls[i]? with
  | some (some (.long x)) => k ls (.long x :: st) M
  | _ => none) := rfl
theorem a_ald (i : Nat) (k : pu_K) (ls : pu_L) (st : List Value) (M : pu_M) : s_ald i k ls st M = (match ls[i]? with
  | some (some (.ref x)) => k ls (.ref x :: st) M
  | some (some (.float x)) => k ls (.float x :: st) M
  | _ => none) := rfl
theorem a_iadd (k : pu_K) (ls : pu_L) (M : pu_M) (y : Int32) (x : Int32) (st : List Value) : s_iadd k ls (.int y :: .int x :: st) M = (k ls (.int (x + y) :: st) M) := rfl
theorem a_isub (k : pu_K) (ls : pu_L) (M : pu_M) (y : Int32) (x : Int32) (st : List Value) : s_isub k ls (.int y :: .int x :: st) M = (k ls (.int (x - y) :: st) M) := rfl
theorem a_imul (k : pu_K) (ls : pu_L) (M : pu_M) (y : Int32) (x : Int32) (st : List Value) : s_imul k ls (.int y :: .int x :: st) M = (k ls (.int (x * y) :: st) M) := rfl
theorem a_iand (k : pu_K) (ls : pu_L) (M : pu_M) (y : Int32) (x : Int32) (st : List Value) : s_iand k ls (.int y :: .int x :: st) M = (k ls (.int (x &&& y) :: st) M) := rfl
theorem a_ishr (k : pu_K) (ls : pu_L) (M : pu_M) (y : Int32) (x : Int32) (st : List Value) : s_ishr k ls (.int y :: .int x :: st) M = (k ls (.int (x >>> (y &&& 31)) :: st) M) := rfl
theorem a_ishl (k : pu_K) (ls : pu_L) (M : pu_M) (y : Int32) (x : Int32) (st : List Value) : s_ishl k ls (.int y :: .int x :: st) M = (k ls (.int (x <<< (y &&& 31)) :: st) M) := rfl
theorem a_ior (k : pu_K) (ls : pu_L) (M : pu_M) (y : Int32) (x : Int32) (st : List Value) : s_ior k ls (.int y :: .int x :: st) M = (k ls (.int (x ||| y) :: st) M) := rfl
theorem a_idiv (k : pu_K) (ls : pu_L) (M : pu_M) (y : Int32) (x : Int32) (st : List Value) : s_idiv k ls (.int y :: .int x :: st) M = (if y = 0 → False then k ls (.int (x / y) :: st) M else none) := rfl
theorem a_irem (k : pu_K) (ls : pu_L) (M : pu_M) (y : Int32) (x : Int32) (st : List Value) : s_irem k ls (.int y :: .int x :: st) M = (if y = 0 → False then k ls (.int (x - x / y * y) :: st) M else none) := rfl
theorem a_ladd (k : pu_K) (ls : pu_L) (M : pu_M) (y : Int64) (x : Int64) (st : List Value) : s_ladd k ls (.long y :: .long x :: st) M = (k ls (.long (x + y) :: st) M) := rfl
theorem a_lsub (k : pu_K) (ls : pu_L) (M : pu_M) (y : Int64) (x : Int64) (st : List Value) : s_lsub k ls (.long y :: .long x :: st) M = (k ls (.long (x - y) :: st) M) := rfl
theorem a_lmul (k : pu_K) (ls : pu_L) (M : pu_M) (y : Int64) (x : Int64) (st : List Value) : s_lmul k ls (.long y :: .long x :: st) M = (k ls (.long (x * y) :: st) M) := rfl
theorem a_ldiv (k : pu_K) (ls : pu_L) (M : pu_M) (y : Int64) (x : Int64) (st : List Value) : s_ldiv k ls (.long y :: .long x :: st) M = (if y = 0 → False then k ls (.long (x / y) :: st) M else none) := rfl
theorem a_lcmp (k : pu_K) (ls : pu_L) (M : pu_M) (y : Int64) (x : Int64) (st : List Value) : s_lcmp k ls (.long y :: .long x :: st) M = (k ls (.int (lg_cmp x y) :: st) M) := rfl
theorem a_i2l (k : pu_K) (ls : pu_L) (M : pu_M) (x : Int32) (st : List Value) : s_i2l k ls (.int x :: st) M = (k ls (.long x.toInt64 :: st) M) := rfl
theorem a_l2i (k : pu_K) (ls : pu_L) (M : pu_M) (x : Int64) (st : List Value) : s_l2i k ls (.long x :: st) M = (k ls (.int x.toInt32 :: st) M) := rfl
theorem a_i2b (k : pu_K) (ls : pu_L) (M : pu_M) (x : Int32) (st : List Value) : s_i2b k ls (.int x :: st) M = (k ls (.int x.toInt8.toInt32 :: st) M) := rfl
theorem a_ineg (k : pu_K) (ls : pu_L) (M : pu_M) (x : Int32) (st : List Value) : s_ineg k ls (.int x :: st) M = (k ls (.int (-x) :: st) M) := rfl
theorem a_dup (k : pu_K) (ls : pu_L) (M : pu_M) (va : Value) (st : List Value) : s_dup k ls (va :: st) M = (if va.category = 1 then k ls (va :: va :: st) M else none) := rfl
theorem a_dup2 (k : pu_K) (ls : pu_L) (M : pu_M) (va : Value) (vb : Value) (st : List Value) : s_dup2 k ls (va :: vb :: st) M = (if va.category = 1 ∧ vb.category = 1 then k ls (va :: vb :: va :: vb :: st) M else none) := rfl
theorem a_pop (k : pu_K) (ls : pu_L) (M : pu_M) (va : Value) (st : List Value) : s_pop k ls (va :: st) M = (if va.category = 1 then k ls (st) M else none) := rfl
theorem a_ifeq (kt kf : pu_K) (ls : pu_L) (M : pu_M) (x : Int32) (st : List Value) : s_ifeq kt kf ls (.int x :: st) M = (if x = 0 then kt ls st M else kf ls st M) := rfl
theorem a_iceq (kt kf : pu_K) (ls : pu_L) (M : pu_M) (y : Int32) (x : Int32) (st : List Value) : s_iceq kt kf ls (.int y :: .int x :: st) M = (if x = y then kt ls st M else kf ls st M) := rfl
theorem a_iflt (kt kf : pu_K) (ls : pu_L) (M : pu_M) (x : Int32) (st : List Value) : s_iflt kt kf ls (.int x :: st) M = (if x < 0 then kt ls st M else kf ls st M) := rfl
theorem a_iclt (kt kf : pu_K) (ls : pu_L) (M : pu_M) (y : Int32) (x : Int32) (st : List Value) : s_iclt kt kf ls (.int y :: .int x :: st) M = (if x < y then kt ls st M else kf ls st M) := rfl
theorem a_ifge (kt kf : pu_K) (ls : pu_L) (M : pu_M) (x : Int32) (st : List Value) : s_ifge kt kf ls (.int x :: st) M = (if 0 ≤ x then kt ls st M else kf ls st M) := rfl
theorem a_icge (kt kf : pu_K) (ls : pu_L) (M : pu_M) (y : Int32) (x : Int32) (st : List Value) : s_icge kt kf ls (.int y :: .int x :: st) M = (if y ≤ x then kt ls st M else kf ls st M) := rfl
theorem a_ifgt (kt kf : pu_K) (ls : pu_L) (M : pu_M) (x : Int32) (st : List Value) : s_ifgt kt kf ls (.int x :: st) M = (if 0 < x then kt ls st M else kf ls st M) := rfl
theorem a_icgt (kt kf : pu_K) (ls : pu_L) (M : pu_M) (y : Int32) (x : Int32) (st : List Value) : s_icgt kt kf ls (.int y :: .int x :: st) M = (if y < x then kt ls st M else kf ls st M) := rfl
theorem a_ifle (kt kf : pu_K) (ls : pu_L) (M : pu_M) (x : Int32) (st : List Value) : s_ifle kt kf ls (.int x :: st) M = (if x ≤ 0 then kt ls st M else kf ls st M) := rfl
theorem a_icle (kt kf : pu_K) (ls : pu_L) (M : pu_M) (y : Int32) (x : Int32) (st : List Value) : s_icle kt kf ls (.int y :: .int x :: st) M = (if x ≤ y then kt ls st M else kf ls st M) := rfl
theorem a_ifne (kt kf : pu_K) (ls : pu_L) (M : pu_M) (x : Int32) (st : List Value) : s_ifne kt kf ls (.int x :: st) M = (if x = 0 then kf ls st M else kt ls st M) := rfl
theorem a_icne (kt kf : pu_K) (ls : pu_L) (M : pu_M) (y : Int32) (x : Int32) (st : List Value) : s_icne kt kf ls (.int y :: .int x :: st) M = (if x = y then kf ls st M else kt ls st M) := rfl
theorem a_nn (kt kf : pu_K) (ls : pu_L) (st : List Value) (M : pu_M) : s_nn kt kf ls st M = (match st with
  | .ref _ :: st => kt ls st M
  | .null :: st => kf ls st M
  | _ => none) := rfl
theorem a_iret (ls : pu_L) (M : pu_M) (v : Int32) : s_iret  ls ([.int v]) M = (some (some (.int v), M)) := rfl
theorem a_zret (ls : pu_L) (M : pu_M) (v : Int32) : s_zret  ls ([.int v]) M = (if v = 0 ∨ v = 1 then some (some (.int v), M) else none) := rfl
theorem a_lret (ls : pu_L) (M : pu_M) (v : Int64) : s_lret  ls ([.long v]) M = (some (some (.long v), M)) := rfl
theorem a_vret (ls : pu_L) (M : pu_M)  : s_vret  ls ([]) M = (some (none, M)) := rfl
theorem a_ist (i : Nat) (k : pu_K) (ls : pu_L) (M : pu_M) (x : Int32) (st : List Value) : s_ist i k ls (.int x :: st) M = (if i < ls.length then k ((pu_kl i ls).set i (some (.int x))) st M else none) := rfl
theorem a_lst (i : Nat) (k : pu_K) (ls : pu_L) (M : pu_M) (x : Int64) (st : List Value) : s_lst i k ls (.long x :: st) M = (if i + 1 < ls.length then k (((pu_kl i ls).set i (some (.long x))).set (i + 1) none) st M else none) := rfl
theorem a_ast (i : Nat) (k : pu_K) (ls : pu_L) (M : pu_M) (x : Nat) (st : List Value) : s_ast i k ls (.ref x :: st) M = (if i < ls.length then k ((pu_kl i ls).set i (some (.ref x))) st M else none) := rfl
theorem a_inc (i : Nat) (n : Int32) (k : pu_K) (ls : pu_L) (st : List Value) (M : pu_M) : s_inc i n k ls st M = (match ls[i]? with
  | some (some (.int x)) => k ((pu_kl i ls).set i (some (.int (x + n)))) st M
  | _ => none) := rfl
theorem a_gi (c j : Nat) (k : pu_K) (ls : pu_L) (M : pu_M) (a : Nat) (st : List Value) : s_gi c j k ls (.ref a :: st) M = (if pu_sh a = (0, c) then k ls (.int (M.1 a j) :: st) M else none) := rfl
theorem a_gr (c j : Nat) (k : pu_K) (ls : pu_L) (M : pu_M) (a : Nat) (st : List Value) : s_gr c j k ls (.ref a :: st) M = (if pu_sh a = (0, c) then k ls (pu_rv (M.2.2.1 a j) :: st) M else none) := rfl
theorem a_pi (c j : Nat) (k : pu_K) (ls : pu_L) (M : pu_M) (v : Int32) (a : Nat) (st : List Value) : s_pi c j k ls (.int v :: .ref a :: st) M = (if pu_sh a = (0, c) then k ls st (pu_wi M a j v) else none) := rfl
theorem a_pz (c j : Nat) (k : pu_K) (ls : pu_L) (M : pu_M) (v : Int32) (a : Nat) (st : List Value) : s_pz c j k ls (.int v :: .ref a :: st) M = (if pu_sh a = (0, c) ∧ (v = 0 ∨ v = 1) then k ls st (pu_wi M a j v) else none) := rfl
theorem a_pr (c j : Nat) (k : pu_K) (ls : pu_L) (M : pu_M) (v : Nat) (a : Nat) (st : List Value) : s_pr c j k ls (.ref v :: .ref a :: st) M = (if pu_sh a = (0, c) then k ls st (pu_wr M a j (some v)) else none) := rfl
theorem a_ai (kd : Nat) (k : pu_K) (ls : pu_L) (M : pu_M) (i : Int32) (a : Nat) (st : List Value) : s_ai kd k ls (.int i :: .ref a :: st) M = (if (pu_sh a).1 = kd ∧ ¬ (i < 0 ∨ (pu_sh a).2 ≤ i.toNatClampNeg) then k ls (.int (M.1 a i.toNatClampNeg) :: st) M else none) := rfl
theorem a_al (k : pu_K) (ls : pu_L) (M : pu_M) (i : Int32) (a : Nat) (st : List Value) : s_al k ls (.int i :: .ref a :: st) M = (if (pu_sh a).1 = 3 ∧ ¬ (i < 0 ∨ (pu_sh a).2 ≤ i.toNatClampNeg) then k ls (.long (M.2.1 a i.toNatClampNeg) :: st) M else none) := rfl
theorem a_ar (k : pu_K) (ls : pu_L) (M : pu_M) (i : Int32) (a : Nat) (st : List Value) : s_ar k ls (.int i :: .ref a :: st) M = (if (pu_sh a).1 = 5 ∧ ¬ (i < 0 ∨ (pu_sh a).2 ≤ i.toNatClampNeg) then k ls (pu_rv (M.2.2.1 a i.toNatClampNeg) :: st) M else none) := rfl
theorem a_len (k : pu_K) (ls : pu_L) (M : pu_M) (a : Nat) (st : List Value) : s_len k ls (.ref a :: st) M = (if (pu_sh a).1 = 1 ∨ (pu_sh a).1 = 3 then k ls (.int (Int32.ofNat (pu_sh a).2) :: st) M else none) := rfl
theorem a_sld (L : Nat) (xs : Nat → Int32) (k : pu_K) (ls : pu_L) (st : List Value) (M : pu_M) : s_sld L xs k ls st M = (match st with
  | .int i :: .float 0 :: st => if ¬ (i < 0 ∨ L ≤ i.toNatClampNeg) then k ls (.int (xs i.toNatClampNeg) :: st) M else none
  | _ => none) := rfl
theorem a_sln (L : Nat) (k : pu_K) (ls : pu_L) (st : List Value) (M : pu_M) : s_sln L k ls st M = (match st with
  | .float 0 :: st => k ls (.int (Int32.ofNat L) :: st) M
  | _ => none) := rfl
theorem a_wi (kd : Nat) (k : pu_K) (ls : pu_L) (M : pu_M) (x : Int32) (i : Int32) (a : Nat) (st : List Value) : s_wi kd k ls (.int x :: .int i :: .ref a :: st) M = (if (pu_sh a).1 = kd ∧ ¬ (i < 0 ∨ (pu_sh a).2 ≤ i.toNatClampNeg) then k ls st (pu_wi M a i.toNatClampNeg x) else none) := rfl
theorem a_wb (k : pu_K) (ls : pu_L) (M : pu_M) (x : Int32) (i : Int32) (a : Nat) (st : List Value) : s_wb k ls (.int x :: .int i :: .ref a :: st) M = (if (pu_sh a).1 = 2 ∧ ¬ (i < 0 ∨ (pu_sh a).2 ≤ i.toNatClampNeg) then k ls st (pu_wi M a i.toNatClampNeg x.toInt8.toInt32) else none) := rfl
theorem a_wz (k : pu_K) (ls : pu_L) (M : pu_M) (x : Int32) (i : Int32) (a : Nat) (st : List Value) : s_wz k ls (.int x :: .int i :: .ref a :: st) M = (if ((pu_sh a).1 = 4 ∧ ¬ (i < 0 ∨ (pu_sh a).2 ≤ i.toNatClampNeg)) ∧ (x = 0 ∨ x = 1) then k ls st (pu_wi M a i.toNatClampNeg x) else none) := rfl
theorem a_wl (k : pu_K) (ls : pu_L) (M : pu_M) (x : Int64) (i : Int32) (a : Nat) (st : List Value) : s_wl k ls (.long x :: .int i :: .ref a :: st) M = (if (pu_sh a).1 = 3 ∧ ¬ (i < 0 ∨ (pu_sh a).2 ≤ i.toNatClampNeg) then k ls st (pu_wl M a i.toNatClampNeg x) else none) := rfl
theorem a_wr (k : pu_K) (ls : pu_L) (M : pu_M) (v : Nat) (i : Int32) (a : Nat) (st : List Value) : s_wr k ls (.ref v :: .int i :: .ref a :: st) M = (if ((pu_sh a).1 = 5 ∧ ¬ (i < 0 ∨ (pu_sh a).2 ≤ i.toNatClampNeg)) ∧ pu_sh v = (0, 5) then k ls st (pu_wr M a i.toNatClampNeg (some v)) else none) := rfl
theorem a_new (c : Nat) (k : pu_K) (ls : pu_L) (st : List Value) (M : pu_M) : s_new c k ls st M = (if pu_sh M.2.2.2 = (0, c) then k ls (.ref M.2.2.2 :: st) (pu_nw M) else none) := rfl
theorem a_na (kd : Nat) (k : pu_K) (ls : pu_L) (M : pu_M) (n : Int32) (st : List Value) : s_na kd k ls (.int n :: st) M = (if (¬ n < 0 ∧ n.toNatClampNeg ≤ 1000000) ∧ pu_sh M.2.2.2 = (kd, n.toNatClampNeg) then k ls (.ref M.2.2.2 :: st) (pu_nw M) else none) := rfl
theorem a_cp1 (k : pu_K) (ls : pu_L) (M : pu_M) (n : Int32) (dp : Int32) (b : Nat) (sp : Int32) (a : Nat) (st : List Value) : s_cp1 k ls (.int n :: .int dp :: .ref b :: .int sp :: .ref a :: st) M = (if ((pu_sh a).1 = 1 ∧ (pu_sh b).1 = 1 ∧ ¬ sp < 0 ∧ ¬ dp < 0 ∧ ¬ n < 0 ∧ sp.toNatClampNeg + n.toNatClampNeg ≤ (pu_sh a).2 ∧ dp.toNatClampNeg + n.toNatClampNeg ≤ (pu_sh b).2) ∧ (st.map fun v => v.category).sum ≤ 8 then k ls st (pu_ci M a sp.toNatClampNeg b dp.toNatClampNeg n.toNatClampNeg) else none) := rfl
theorem a_cp3 (k : pu_K) (ls : pu_L) (M : pu_M) (n : Int32) (dp : Int32) (b : Nat) (sp : Int32) (a : Nat) (st : List Value) : s_cp3 k ls (.int n :: .int dp :: .ref b :: .int sp :: .ref a :: st) M = (if ((pu_sh a).1 = 3 ∧ (pu_sh b).1 = 3 ∧ ¬ sp < 0 ∧ ¬ dp < 0 ∧ ¬ n < 0 ∧ sp.toNatClampNeg + n.toNatClampNeg ≤ (pu_sh a).2 ∧ dp.toNatClampNeg + n.toNatClampNeg ≤ (pu_sh b).2) ∧ (st.map fun v => v.category).sum ≤ 8 then k ls st (pu_cl M a sp.toNatClampNeg b dp.toNatClampNeg n.toNatClampNeg) else none) := rfl
theorem a_max (k : pu_K) (ls : pu_L) (M : pu_M) (y : Int32) (x : Int32) (st : List Value) : s_max k ls (.int y :: .int x :: st) M = (if (st.map fun v => v.category).sum ≤ 8 then k ls (.int (if x < y then y else x) :: st) M else none) := rfl
theorem a_min (k : pu_K) (ls : pu_L) (M : pu_M) (y : Int32) (x : Int32) (st : List Value) : s_min k ls (.int y :: .int x :: st) M = (if (st.map fun v => v.category).sum ≤ 8 then k ls (.int (if y < x then y else x) :: st) M else none) := rfl
theorem a_abs (k : pu_K) (ls : pu_L) (M : pu_M) (x : Int32) (st : List Value) : s_abs k ls (.int x :: st) M = (if (st.map fun v => v.category).sum ≤ 8 then k ls (.int (if 0 ≤ x then x else 0 - x) :: st) M else none) := rfl
theorem a_obj (k : pu_K) (ls : pu_L) (M : pu_M) (z0 : Nat) (st : List Value) : s_obj k ls (.ref z0 :: st) M = (if (st.map fun v => v.category).sum ≤ 8 then k ls st M else none) := rfl
theorem a_cv (r : pu_R) (j n c : Nat) (k : pu_K) (ls : pu_L) (st : List Value) (M : pu_M) : s_cv r j n c k ls st M = (match st.drop n with
  | .ref a :: rest => if (pu_sh a = (0, c) ∧ (st.take n).length = n) ∧ (rest.map fun v => v.category).sum ≤ 8 then pu_bk k ls rest (r j (pu_as (.ref a :: (st.take n).reverse)) [] M) else none
  | _ => none) := rfl
theorem a_ci (r : pu_R) (j n : Nat) (k : pu_K) (ls : pu_L) (st : List Value) (M : pu_M) : s_ci r j n k ls st M = (match st.drop n with
  | .ref a :: rest => if (st.take n).length = n ∧ (rest.map fun v => v.category).sum ≤ 8 then pu_bk k ls rest (r j (pu_as (.ref a :: (st.take n).reverse)) [] M) else none
  | _ => none) := rfl
theorem a_cs (r : pu_R) (j n : Nat) (k : pu_K) (ls : pu_L) (st : List Value) (M : pu_M) : s_cs r j n k ls st M = (if (st.take n).length = n ∧ ((st.drop n).map fun v => v.category).sum ≤ 8 then pu_bk k ls (st.drop n) (r j (pu_as (st.take n).reverse) [] M) else none) := rfl
theorem a_ent (n : Nat) (k : pu_K) (ls : pu_L) (st : List Value) (M : pu_M) : s_ent n k ls st M = (if ls.length ≤ n then k (ls ++ List.replicate (n - ls.length) none) [] M else none) := rfl
theorem a_no (ls : pu_L) (st : List Value) (M : pu_M) : s_no  ls st M = (none) := rfl
theorem a_nret (ty : FieldType) (ls : pu_L) (M : pu_M) (v : Int32) : s_nret ty ls ([.int v]) M = (if narrow ty (.int v) = .int v then some (some (.int v), M) else none) := rfl
theorem a_i2c (k : pu_K) (ls : pu_L) (M : pu_M) (x : Int32) (st : List Value) : s_i2c k ls (.int x :: st) M = (k ls (.int (x.toUInt32 % 65536).toInt32 :: st) M) := rfl
theorem a_sw (lo : Int) (ks : List pu_K) (kd : pu_K) (ls : pu_L) (st : List Value) (M : pu_M) : s_sw lo ks kd ls st M = (match st with
  | .int x :: st => if x.toInt < lo then kd ls st M else (match ks[(x.toInt - lo).toNat]? with
    | some k => k ls st M
    | none => kd ls st M)
  | _ => none) := rfl
theorem a_gsv (k : pu_K) (ls : pu_L) (st : List Value) (M : pu_M) : s_gsv k ls st M = (match st with
  | .float q :: st => if 1 ≤ q.toNat ∧ q.toNat < 7 ∧ (q + 100).toNat = q.toNat + 100 then k ls (.float (q + 100) :: st) M else none
  | _ => none) := rfl
theorem a_gsc (k : pu_K) (ls : pu_L) (st : List Value) (M : pu_M) : s_gsc k ls st M = (match st with
  | .float q :: st => if 1 ≤ q.toNat ∧ q.toNat < 7 then k ls (.int 0 :: st) M else none
  | _ => none) := rfl
theorem a_sal (k : pu_K) (ls : pu_L) (st : List Value) (M : pu_M) : s_sal k ls st M = (match st with
  | .float q :: st => if 101 ≤ q.toNat ∧ q.toNat < 107 then k ls (.int (Int32.ofNat (pu_sn.getD (q.toNat - 101) 0)) :: st) M else none
  | _ => none) := rfl
theorem a_sba (k : pu_K) (ls : pu_L) (st : List Value) (M : pu_M) : s_sba k ls st M = (match st with
  | .int i :: .float q :: st => if (101 ≤ q.toNat ∧ q.toNat < 107) ∧ ¬ (i < 0 ∨ pu_sn.getD (q.toNat - 101) 0 ≤ i.toNatClampNeg) then k ls (.int ((pu_sb.getD (q.toNat - 101) []).getD i.toNatClampNeg 0) :: st) M else none
  | _ => none) := rfl
theorem a_ct (r : pu_R) (j n : Nat) (k : pu_K) (ls : pu_L) (st : List Value) (M : pu_M) : s_ct r j n k ls st M = (match st.drop n with
  | .float a :: rest => if ((1 ≤ a.toNat ∧ a.toNat < 7) ∧ (st.take n).length = n) ∧ (rest.map fun v => v.category).sum ≤ 8 then pu_bk k ls rest (r j (pu_as (.float a :: (st.take n).reverse)) [] M) else none
  | _ => none) := rfl
