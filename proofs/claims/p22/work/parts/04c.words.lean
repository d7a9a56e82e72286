/-! WHAT THE INSTRUCTIONS NAME, held against the tables -/
/-- nest mates' links that the tables give -/
def kNest : List (String × Nat × MethodName) := lw_tbl.filterMap fun w => match w with
  | .methodLinkNest a i x h => if h = "BoxLeaves" then some (a, i, x) else none
  | _ => none
def wA : List Jvm.Cond := lw_tbl.filter goodWord
def wsm (k : Nat) : List Jvm.Cond := Jvm.Cond.code (mname k) (mcode k) (mml k) (mret k) :: wA
def okW (i : Nat) (w : Jvm.Cond) : Bool := tAt i == some w && goodWord w
def ilen : Instr → Nat
  | .bipush _ => 2
  | .sipush _ => 3
  | .ldc _ => 2
  | .ldc_w _ => 3
  | .ldc2_w _ => 3
  | .iload _ => 2
  | .lload _ => 2
  | .aload _ => 2
  | .istore _ => 2
  | .lstore _ => 2
  | .astore _ => 2
  | .iinc _ _ => 3
  | .ifCond _ _ => 3
  | .if_icmp _ _ => 3
  | .goto _ => 3
  | .ifnull _ => 3
  | .ifnonnull _ => 3
  | .getfield _ => 3
  | .putfield _ => 3
  | .getstatic _ => 3
  | .invokevirtual _ => 3
  | .invokestatic _ => 3
  | .invokespecial _ => 3
  | .new _ => 3
  | .newarray _ => 2
  | .anewarray _ => 3
  | .multianewarray _ _ => 4
  | _ => 1
def isSwitch : Instr → Bool
  | .tableswitch _ _ _ _ => true
  | .lookupswitch _ _ => true
  | _ => false
abbrev mown (k : Nat) : String := (mname k).cls
/-- a call's link: in the tables, or among nest mates' (300000 there); own methods alone (from 1000 on: what is told apart) -/
def okC (k : Nat) (t : Tok) (ix : Nat) : Bool := if t.2.2.1 < 1000 then (if t.2.2.2 = 300000 then kNest.any (fun q => q.1 == mown k && (q.2.1 == ix && q.2.2 == mname t.2.2.1)) else okW t.2.2.2 (.methodLink (mown k) ix (mname t.2.2.1))) else if t.2.2.1 = 1000 then okW t.2.2.2 (.methodLink (mown k) ix Lib.objectInit) else if t.2.2.1 = 1001 then okW t.2.2.2 (.methodLink (mown k) ix arraycopyName) else false
def okN (k : Nat) (t : Tok) (ix : Nat) : Bool := match kCls[t.2.2.1]? with
  | some q => okW t.2.2.2 (.classLink (mown k) ix q.1) && (okW (kCx.getD t.2.2.1 (0, 0)).1 (.instantiable q.1 q.2.2) && okW (kCx.getD t.2.2.1 (0, 0)).2 (.initialized q.1))
  | none => false
/-- what an instruction names stands in the tables -/
def okT (k : Nat) (t : Tok) : Bool := (isSwitch t.1 || t.2.1 == ilen t.1) && match t.1 with
  | .ldc ix => if t.2.2.1 < 1000 then okW t.2.2.2 (.constant (mown k) ix (Int32.ofInt (kI.getD t.2.2.1 0))) else match kStr[t.2.2.1 - 1000]? with
      | some q => q.1 == ix && mown k == "BoxLeaves$Tape"
      | none => false
  | .ldc_w ix => okW t.2.2.2 (.constant (mown k) ix (Int32.ofInt (kI.getD t.2.2.1 0)))
  | .ldc2_w ix => okW t.2.2.2 (.constantLong (mown k) ix (Int64.ofInt (kI.getD t.2.2.1 0)))
  | .getfield ix => if 5000 ≤ t.2.2.1 then true else match kCls[t.2.2.1 / 64]? with
      | some q => okW t.2.2.2 (.fieldLink (mown k) ix (q.2.1 (t.2.2.1 % 64)).1 (q.2.1 (t.2.2.1 % 64)).2.1 (q.2.1 (t.2.2.1 % 64)).2.2.1)
      | none => false
  | .putfield ix => match kCls[t.2.2.1 / 64]? with
      | some q => (okW t.2.2.2 (.fieldLink (mown k) ix (q.2.1 (t.2.2.1 % 64)).1 (q.2.1 (t.2.2.1 % 64)).2.1 (q.2.1 (t.2.2.1 % 64)).2.2.1)) && (!(q.2.1 (t.2.2.1 % 64)).2.2.2 || (q.2.1 (t.2.2.1 % 64)).1 == mown k)
      | none => false
  | .invokevirtual ix => okC k t ix
  | .invokestatic ix => okC k t ix
  | .invokespecial ix => okC k t ix
  | .new ix => okN k t ix
  | .newarray ty => okW t.2.2.2 (.arrayClass (newarray.typeOf ty))
  | .anewarray ix => okW t.2.2.2 (.classLink (mown k) ix "BoxLeaves$Terms")
  | .multianewarray ix _ => okW t.2.2.2 (.classLink (mown k) ix "[[J") && okW t.2.2.1 (.arrayClass .long)
  | _ => true
theorem okT_len {k : Nat} {t : Tok} (h : okT k t = true) (hi : isSwitch t.1 = false) : t.2.1 = ilen t.1 := by
  unfold okT at h
  rw [Bool.and_eq_true, hi] at h
  simpa using h.1
/-- a word at its place in the tables -/
abbrev wdB (i : Nat) (w : Jvm.Cond) : Bool := okW i w
/-- a method's own words -/
def okM (k : Nat) : Bool := decide (k ≠ 0) && match kMx[k]? with
  | some q => (match tAt q.1 with
      | some (.code y b n r) => y == mname k && (n == mml k && (r == mret k && goodWord (.code y b n r)))
      | _ => false) && (wdB q.2.1 (.initialized (mname k).cls) && ((mname k).cls != "java/lang/invoke/MethodHandle" && ((mname k).cls != "java/lang/invoke/VarHandle" && (plainFor (mname k) && ((parseMethodDescriptor (mname k).desc).map (fun d => d.parameters.length) == some q.2.2.2.2.1 && ((if q.2.2.2.2.2 = 1 then wdB q.2.2.1 (.static (mname k)) else wdB q.2.2.1 (.instanceMethod (mname k)) && ((mname k).name == "<init>" || wdB q.2.2.2.1 (.selects (mname k).cls (mname k) (mname k)))) && decide (mml k ≤ 44)))))))
  | none => false
def mst (k : Nat) : Bool := (kMx.getD k (0, 0, 0, 0, 0, 0)).2.2.2.2.2 == 1
def mnp (k : Nat) : Nat := (kMx.getD k (0, 0, 0, 0, 0, 0)).2.2.2.2.1
