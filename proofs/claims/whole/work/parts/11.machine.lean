/-! The machine of the picture: a step, a run. The tables of the program stand ahead of this. -/
def iv_pad (mj : Nat) (as : List Value) : List Value := as ++ List.replicate (iv_nL mj - as.length) (.retAddr 0)
def iv_end (mi : Nat) (c s : Nat) (r : iv_R) : Option iv_R := bif Nat.ble c (iv_rm mi).cells && Nat.ble s (iv_rm mi).slots then some r else none
def iv_thr (K : iv_K) (mi pc : Nat) (ls : List Value) (A : iv_A) (c s x : Nat) : Option iv_R := match x with
  | x + 3 => match A[x]? with
    | some (.inr o) => bif iv_xc o.1 && Nat.blt o.1 10 then (bif (iv_hh mi).isEmpty then iv_end mi c s (.inr (x + 3), A) else (match iv_pick pc (iv_ok (iv_ow mi) o.1) (iv_hh mi) with
        | some h => K mi h ls [.ref (x + 3)] A c s
        | none => none)) else none
    | _ => none
  | _ => none
def iv_c1s (as : List Value) : Bool := as.all fun v => Nat.beq v.category 1
def iv_inv (K : iv_K) (mi pc : Nat) (ls rest : List Value) (A : iv_A) (c s mj : Nat) (as : List Value) : Option iv_R :=
  bif Nat.ble rest.length 4 && Nat.ble (c + (iv_rm mj).cells) (iv_rm mi).cells && Nat.ble (s + (iv_rm mj).slots) (iv_rm mi).slots && Nat.ble as.length (iv_nL mj) && iv_c1s as then
    (match K mj 0 (iv_pad mj as) [] A 0 0 with
    | some (.inl v, A') => K mi (pc + 3) ls (v.toList ++ rest) A' (c + (iv_rm mj).cells) (s + (iv_rm mj).slots)
    | some (.inr x, A') => iv_thr K mi pc ls A' (c + (iv_rm mj).cells) (s + (iv_rm mj).slots) x
    | none => none)
  else none
def iv_spl (np : Nat) (st : List Value) (k : List Value → List Value → Option iv_R) : Option iv_R := bif Nat.ble np st.length then k (st.take np).reverse (st.drop np) else none
def iv_this (A : iv_A) (ci : Nat) (as : List Value) (k : Option iv_R) : Option iv_R := match as with
  | .ref (i + 3) :: _ => match A[i]? with
    | some (.inr o) => bif Nat.beq o.1 ci then k else none
    | _ => none
  | _ => none
def iv_lsw (ps : Array (Int × Int)) (dflt : Int) (st : List Value) (k : Int → List Value → Option iv_R) : Option iv_R := match st with
  | .int x :: r => bif (ps.toList.zip (ps.toList.drop 1)).all (fun (a, next) => a.1 < next.1) then k (Op.lookupswitch.offset ps.toList dflt x.toInt) r else none
  | _ => none
def iv_m2 (f : Int32 → Int32 → Int32) (mi c s : Nat) (st : List Value) (k : List Value → Option iv_R) : Option iv_R := match st with
  | .int y :: .int x :: r => bif Nat.ble r.length 4 && Nat.ble c (iv_rm mi).cells && Nat.ble s (iv_rm mi).slots then k (.int (f x y) :: r) else none
  | _ => none
def iv_m1 (f : Int32 → Int32) (mi c s : Nat) (st : List Value) (k : List Value → Option iv_R) : Option iv_R := match st with
  | .int x :: r => bif Nat.ble r.length 4 && Nat.ble c (iv_rm mi).cells && Nat.ble s (iv_rm mi).slots then k (.int (f x) :: r) else none
  | _ => none
def iv_oi (st : List Value) (k : List Value → Option iv_R) : Option iv_R := match st with
  | .ref _ :: r => bif Nat.ble r.length 4 then k r else none
  | _ => none
/-- a new array of ints, booleans, longs -/
def iv_na (mi : Nat) (t : ArrayType) (A : iv_A) (c s : Nat) (st : List Value) (k : List Value → iv_A → Nat → Nat → Option iv_R) : Option iv_R := match st with
  | .int n :: r => bif !(decide (n < 0)) && Nat.ble (c + 1) (iv_rm mi).cells && Nat.ble (s + n.toNatClampNeg) (iv_rm mi).slots && Nat.ble n.toNatClampNeg 1000 then (match t with
    | .int => k (.ref (A.length + 3) :: r) (A ++ [.inl (0, n.toNatClampNeg, .inl (fun _ => 0))]) (c + 1) (s + n.toNatClampNeg)
    | .boolean => k (.ref (A.length + 3) :: r) (A ++ [.inl (1, n.toNatClampNeg, .inl (fun _ => 0))]) (c + 1) (s + n.toNatClampNeg)
    | .long => k (.ref (A.length + 3) :: r) (A ++ [.inl (2, n.toNatClampNeg, .inr (.inl (fun _ => 0)))]) (c + 1) (s + n.toNatClampNeg)
    | _ => none) else none
  | _ => none
def iv_nq (mi ci : Nat) (A : iv_A) (c s : Nat) (st : List Value) (k : List Value → iv_A → Nat → Nat → Option iv_R) : Option iv_R := match st with
  | .int n :: r => bif !(decide (n < 0)) && Nat.ble (c + 1) (iv_rm mi).cells && Nat.ble (s + n.toNatClampNeg) (iv_rm mi).slots && Nat.ble n.toNatClampNeg 1000 then
      k (.ref (A.length + 3) :: r) (A ++ [.inl (ci + 3, n.toNatClampNeg, .inr (.inr (.inr (.inr (fun _ => none)))))]) (c + 1) (s + n.toNatClampNeg) else none
  | _ => none
/-- 'throw new E()' -/
def iv_thn (mi pc ci : Nat) (A : iv_A) (c s : Nat) (st : List Value) : Option iv_R := match iv_lk (pc + 3) (iv_code mi), iv_lk (pc + 4) (iv_code mi), iv_lk (pc + 7) (iv_code mi) with
  | some .dup, some (.invokespecial j), some .athrow => match iv_nx (iv_ow mi) j with
    | some cj => bif Nat.beq ci cj && Nat.ble st.length 4 && (iv_hh mi).isEmpty then iv_end mi (c + 1) (s + 6) (.inr (A.length + 3), A ++ [.inr (ci, [])]) else none
    | none => none
  | _, _, _ => none
def iv_next (X : Nat → Option (Nat × (Nat → Int32))) (K : iv_K) (mi pc : Nat) (ls st : List Value) (A : iv_A) (c s : Nat) : Option iv_R :=
  match iv_lk pc (iv_code mi) with
  | none => none
  | some ins => match ins with
    | .iconst n => K mi (pc + 1) ls (.int (Int32.ofInt n) :: st) A c s
    | .bipush n => K mi (pc + 2) ls (.int (Int8.ofInt n).toInt32 :: st) A c s
    | .sipush n => K mi (pc + 3) ls (.int (Int16.ofInt n).toInt32 :: st) A c s
    | .ldc i => match iv_cn (iv_ow mi) i with
      | some x => K mi (pc + 2) ls (.int x :: st) A c s
      | none => none
    | .iload_n k => iv_ldi ls k.val fun v => K mi (pc + 1) ls (v :: st) A c s
    | .iload k => iv_ldi ls k fun v => K mi (pc + 2) ls (v :: st) A c s
    | .aload_n k => iv_lda ls k.val fun v => K mi (pc + 1) ls (v :: st) A c s
    | .aload k => iv_lda ls k fun v => K mi (pc + 2) ls (v :: st) A c s
    | .istore_n k => iv_sti ls k.val st fun ls r => K mi (pc + 1) ls r A c s
    | .istore k => iv_sti ls k st fun ls r => K mi (pc + 2) ls r A c s
    | .astore_n k => iv_sta ls k.val st fun ls r => K mi (pc + 1) ls r A c s
    | .astore k => iv_sta ls k st fun ls r => K mi (pc + 2) ls r A c s
    | .iinc i n => iv_inc ls i n fun ls => K mi (pc + 3) ls st A c s
    | .iadd => iv_bin (fun x y => x + y) st fun r => K mi (pc + 1) ls r A c s
    | .isub => iv_bin (fun x y => x - y) st fun r => K mi (pc + 1) ls r A c s
    | .imul => iv_bin (fun x y => x * y) st fun r => K mi (pc + 1) ls r A c s
    | .iand => iv_bin (fun x y => x &&& y) st fun r => K mi (pc + 1) ls r A c s
    | .ior => iv_bin (fun x y => x ||| y) st fun r => K mi (pc + 1) ls r A c s
    | .ixor => iv_bin (fun x y => x ^^^ y) st fun r => K mi (pc + 1) ls r A c s
    | .ishl => iv_bin (fun x y => x <<< (y &&& 31)) st fun r => K mi (pc + 1) ls r A c s
    | .ishr => iv_bin (fun x y => x >>> (y &&& 31)) st fun r => K mi (pc + 1) ls r A c s
    | .idiv => iv_dv (fun x y => x / y) st fun r => K mi (pc + 1) ls r A c s
    | .irem => iv_dv (fun x y => x - x / y * y) st fun r => K mi (pc + 1) ls r A c s
    | .goto off => iv_jp pc off fun t => K mi t ls st A c s
    | .ifCond q off => iv_jp pc off fun t => iv_if1 (Op.ifCond.holds q) st (fun r => K mi t ls r A c s) (fun r => K mi (pc + 3) ls r A c s)
    | .if_icmp q off => iv_jp pc off fun t => iv_if2 (Op.if_icmp.holds q) st (fun r => K mi t ls r A c s) (fun r => K mi (pc + 3) ls r A c s)
    | .dup => iv_dup st fun r => K mi (pc + 1) ls r A c s
    | .dup2 => iv_dup2 st fun r => K mi (pc + 1) ls r A c s
    | .i2l => iv_i2l st fun r => K mi (pc + 1) ls r A c s
    | .lcmp => iv_lcmp st fun r => K mi (pc + 1) ls r A c s
    | .tableswitch d lo hi offs => iv_tsw lo hi d offs st fun o r => iv_jp pc o fun t => K mi t ls r A c s
    | .lookupswitch d ps => iv_lsw ps d st fun o r => iv_jp pc o fun t => K mi t ls r A c s
    | .getfield i => match iv_fl (iv_ow mi) i with
      | some (ci, f) => iv_gf A ci f st fun r => K mi (pc + 3) ls r A c s
      | none => none
    | .putfield i => match iv_fl (iv_ow mi) i with
      | some (ci, f) => bif !(iv_fin ci f) || (iv_ini mi && Nat.beq (iv_ow mi) ci) then iv_pf A ci f (iv_ft ci f) st fun A r => K mi (pc + 3) ls r A c s else none
      | none => none
    | .getstatic i => match iv_sf (iv_ow mi) i with
      | some z => K mi (pc + 3) ls (.ref z :: st) A c s
      | none => none
    | .iaload => iv_ald X A 0 st fun r => K mi (pc + 1) ls r A c s
    | .baload => iv_ald X A 1 st fun r => K mi (pc + 1) ls r A c s
    | .iastore => iv_ast A 0 (fun x => x) st fun A r => K mi (pc + 1) ls r A c s
    | .bastore => iv_ast A 1 (vp_nar .boolean) st fun A r => K mi (pc + 1) ls r A c s
    | .laload => iv_lld A st fun r => K mi (pc + 1) ls r A c s
    | .lastore => iv_lst A st fun A r => K mi (pc + 1) ls r A c s
    | .aaload => iv_rld iv_kt A st fun r => K mi (pc + 1) ls r A c s
    | .aastore => iv_rst iv_kt A st fun A r => K mi (pc + 1) ls r A c s
    | .arraylength => iv_len X iv_kk A st fun r => K mi (pc + 1) ls r A c s
    | .newarray t => iv_na mi t A c s st fun r A c s => K mi (pc + 2) ls r A c s
    | .anewarray i => match iv_an (iv_ow mi) i with
      | some ci => bif (iv_kt (ci + 3)).isSome then iv_nq mi ci A c s st fun r A c s => K mi (pc + 3) ls r A c s else none
      | none => none
    | .new i => match iv_nw (iv_ow mi) i with
      | some ci => bif iv_xc ci then iv_thn mi pc ci A c s st
        else bif Nat.ble (c + 1) (iv_rm mi).cells && Nat.ble (s + iv_fn ci) (iv_rm mi).slots then K mi (pc + 3) ls (.ref (A.length + 3) :: st) (A ++ [.inr (ci, iv_df ci)]) (c + 1) (s + iv_fn ci) else none
      | none => none
    | .invokevirtual i => match iv_mt (iv_ow mi) i with
      | some mj => bif iv_kd mj == 0 then iv_spl (iv_np mj) st fun as rest => iv_this A (iv_ow mj) as (iv_inv K mi pc ls rest A c s mj as) else none
      | none => none
    | .invokestatic i => match iv_mt (iv_ow mi) i with
      | some mj => match iv_kd mj with
        | 1 => iv_spl (iv_np mj) st fun as rest => iv_inv K mi pc ls rest A c s mj as
        | 3 => iv_m2 (fun x y => if x < y then y else x) mi c s st fun r => K mi (pc + 3) ls r A c s
        | 4 => iv_m2 (fun x y => if y < x then y else x) mi c s st fun r => K mi (pc + 3) ls r A c s
        | 5 => iv_m1 (fun x => if 0 ≤ x then x else 0 - x) mi c s st fun r => K mi (pc + 3) ls r A c s
        | _ => none
      | none => none
    | .invokespecial i => match iv_mt (iv_ow mi) i with
      | some mj => match iv_kd mj with
        | 2 => iv_spl (iv_np mj) st fun as rest => iv_this A (iv_ow mj) as (iv_inv K mi pc ls rest A c s mj as)
        | 6 => iv_oi st fun r => K mi (pc + 3) ls r A c s
        | _ => none
      | none => none
    | .ireturn => match st with
      | [.int x] => (match iv_rt mi with
        | some ty => bif iv_fit ty (.int x) then iv_end mi c s (.inl (some (.int x)), A) else none
        | none => none)
      | _ => none
    | .return_ => match st with
      | [] => (match iv_rt mi with
        | none => iv_end mi c s (.inl none, A)
        | some _ => none)
      | _ => none
    | _ => none
def iv_run (X : Nat → Option (Nat × (Nat → Int32))) : Nat → iv_K
  | 0 => fun _ _ _ _ _ _ _ => none
  | n + 1 => iv_next X (iv_run X n)
