/-! MAKING CELLS -/
def cal (k : Nat) (t : Tok) (S : bS) : Option bS := match t.1, S with
  | .new _, (pc, lv, st, n, h) => if (sh n).1 = 10 + t.2.2.1 ∧ n < 212 then some (pc + 3, lv, (2, (n : Int)) :: st, n + 1, hnew h n (fun j => if fkd t.2.2.1 j = 2 then -1 else 0)) else none
  | .newarray ty, (pc, lv, (v, x) :: r, n, h) => if v = 0 ∧ 0 ≤ x ∧ sh n = (if newarray.typeOf ty = .int then 0 else 1, x.toNat) ∧ n < 212 ∧ (newarray.typeOf ty = .int ∨ newarray.typeOf ty = .long) then some (pc + 2, lv, (2, (n : Int)) :: r, n + 1, hnew h n (fun _ => 0)) else none
  | .anewarray _, (pc, lv, (v, x) :: r, n, h) => if v = 0 ∧ 0 ≤ x ∧ sh n = (2, x.toNat) ∧ n < 212 then some (pc + 3, lv, (2, (n : Int)) :: r, n + 1, hnew h n (fun _ => -1)) else none
  | .aastore, (pc, lv, (t, x) :: (v, i) :: (u, a) :: r, n, h) => if t = 2 ∧ v = 0 ∧ u = 2 ∧ barr 2 n a i = true ∧ 0 ≤ x ∧ x.toNat < n ∧ (sh x.toNat).1 = 18 then some (pc + 1, lv, r, n, hup h a.toNat i.toNat x) else none
  | _, _ => none
section SA
variable {g : bG} {l : Launch} {d k n0 n1 : Nat} {Q : bQ}
theorem sh_small {n : Nat} (h : n < 212) : (sh n).2 < 2000 := kSh_small n h
theorem slN_1 {n : Nat} (h : n < 212) : slN (n + 1) = slN n + (sh n).2 := by
  unfold slN sh
  have hl : n < kSh.length := h
  rw [List.take_succ, List.getElem?_eq_getElem hl, List.map_append, List.sum_append, List.getD_eq_getElem?_getD, List.getElem?_eq_getElem hl]
  simp
theorem HR.new {n : Nat} {h : bH} {H H1 : Heap} (q : HR g n h H) (hn : n < 212) {f : Nat → Int} (hc : cellR g n f H1) (hf : ∀ j, j < (sh n).2 → okk (lk n j) (f j)) (hs : H1.size = H.size + 1) (ho : ∀ q : Nat, q < H.size → H1[q]? = H[q]?) : HR g (n + 1) (hnew h n f) H1 := by
  obtain ⟨q1, q2, q3, q4⟩ := q
  refine ⟨by rw [hs, q1]; rfl, by omega, fun z hz => by rw [ho z (by omega)]; exact q3 z hz, fun b hb => ?_⟩
  by_cases e : b = n
  · subst e
    have e3 : hnew h b f b = f := funext fun i => if_pos rfl
    rw [e3]
    exact ⟨hc, hf⟩
  · have e3 : hnew h n f b = h b := funext fun i => if_neg e
    rw [e3]
    exact ⟨(q4 b (by omega)).1.kept (ho _ (by omega)), (q4 b (by omega)).2⟩
theorem okW_in {k i : Nat} {w : Jvm.Cond} (h : okW i w = true) : w ∈ wsm k := wd_in h
theorem fkt_df {t : FieldType} {c : Nat} (h : fkt t = c) (h4 : c < 4) : defaultValue t = cvk g c (if c = 2 then -1 else 0) ∧ okk c (if c = 2 then -1 else 0) := by
  subst h
  cases t with
  | int => exact ⟨rfl, by show in32 0; unfold in32; omega⟩
  | long => exact ⟨rfl, by show in64 0; unfold in64; omega⟩
  | boolean => exact ⟨rfl, by show (0 : Int) ≤ 0 ∧ (0 : Int) ≤ 1; omega⟩
  | object n => exact ⟨rfl, by show (-1 : Int) ≤ -1; omega⟩
  | array n => exact ⟨rfl, by show (-1 : Int) ≤ -1; omega⟩
  | byte => exact absurd h4 (by decide)
  | char => exact absurd h4 (by decide)
  | short => exact absurd h4 (by decide)
  | float => exact absurd h4 (by decide)
  | double => exact absurd h4 (by decide)
theorem cv_n {n : Nat} (h : n < 512) : cv g (2, (n : Int)) = .ref (gsz g + n) := by
  rw [cv_2 g (by omega), ad_lo g (by omega)]
  rfl
theorem wp_new {ix ci len widx pc n : Nat} {lv : bL} {st : List bV} {h : bH} (hd : decode (mcode k) pc = .ok (.new ix, 3)) (ht : okN k (.new ix, len, ci, widx) ix = true) (hsh : (sh n).1 = 10 + ci) (hn : n < 212) (hn1 : n + 1 ≤ n1)
    (hk : WP g l d k n0 n1 Q (pc + 3, lv, (2, (n : Int)) :: st, n + 1, hnew h n (fun j => if fkd ci j = 2 then -1 else 0))) : WP g l d k n0 n1 Q (pc, lv, st, n, h) := by
  intro p e R s m args below meth c Z E H locs ls q h0 h1
  obtain ⟨hx, hb, hml, hret, hlk, hown, hts, hin, hK⟩ := id E.1
  dsimp only at q h0 h1 ⊢
  obtain ⟨sz1, sz2⟩ := (kSh_ok n hn).1 (by omega)
  rw [hsh, Nat.add_sub_cancel_left] at sz1 sz2
  have hz : kCls[ci]? = some (kCls.getD ci ("", kF0, 0)) := by
    rw [List.getD_eq_getElem?_getD]
    have : ci < kCls.length := by rw [kCls_len]; exact sz2
    rw [List.getElem?_eq_getElem this]; rfl
  generalize hzz : kCls.getD ci ("", kF0, 0) = z at hz sz1
  unfold okN at ht
  dsimp only at ht
  rw [hz] at ht
  dsimp only at ht
  rw [Bool.and_eq_true, Bool.and_eq_true] at ht
  obtain ⟨t1, t2, t3⟩ := ht
  have hKn := hK.1 _ _ hz
  have hHs : H.size = gsz g + n := q.1.1
  refine W.newcK hx hb hown (hts _ (okW_in t1)) (hts _ (okW_in t2)) (hts _ (okW_in t3)) rfl hd (by have := E.2.1.2.2.1; omega) (by have := E.2.1.2.2.2; have e1 := slN_1 hn; have := slN_mono hn1; have := slN_mono h0; rw [sz1]; omega) hKn.2.1 rfl fun H1 kC hkC e1 z1 o1 => ?_
  have hF : ∀ j, j < z.2.2 → parseFieldDescriptor (z.2.1 j).2.2.1 = some (fty z j) := fun j hj => by
    have := (kF_ty _ sz2 j (by rw [hzz]; exact hj)).1
    rw [hzz] at this; exact this
  have hfk : ∀ j, j < z.2.2 → fkt (fty z j) = fkd ci j ∧ fkd ci j < 4 := fun j hj => by
    have := (kF_ty _ sz2 j (by rw [hzz]; exact hj)).2
    rw [hzz] at this; exact this
  have hborn := u_born (fty z) hts (u_ws_in hz) hKn hkC e1 hF
  have hnew : HR g (n + 1) (hnew h n (fun j => if fkd ci j = 2 then -1 else 0)) H1 := by
    refine q.1.new hn ?_ ?_ z1 o1
    · unfold cellR
      rw [if_neg (by omega), hsh, Nat.add_sub_cancel_left, ← sz1, ← hHs]
      refine hborn.to fun j hj => ?_
      rw [lk_obj hsh]
      exact (fkt_df (hfk j hj).1 (hfk j hj).2).1
    · intro j hj
      rw [lk_obj hsh]
      exact (fkt_df (g := g) (hfk j (by rw [sz1]; exact hj)).1 (hfk j (by rw [sz1]; exact hj)).2).2
  have w := hk p e R s m args below meth c Z E H1 locs ls ⟨hnew, q.2.1, q.2.2.1, okc (by show (-1 : Int) ≤ n; omega) q.2.2.2.1, q.2.2.2.2⟩ (by show n0 ≤ n + 1; omega) hn1
  have en : n + 1 - n0 = n - n0 + 1 := by omega
  have es : slN (n + 1) - slN n0 = slN n - slN n0 + z.2.2 := by
    rw [slN_1 hn, sz1]; have := slN_mono h0; omega
  dsimp only at w
  rw [en, es, List.map_cons, cv_n (by omega), ← hHs] at w
  exact w
theorem wp_newa {ty : ArrayType} {kd len widx aux pc n : Nat} {x : Int} {lv : bL} {r : List bV} {h : bH} (hd : decode (mcode k) pc = .ok (.newarray ty, 2)) (ht : okW widx (.arrayClass (newarray.typeOf ty)) = true) (hty : (newarray.typeOf ty = .int ∧ kd = 0) ∨ (newarray.typeOf ty = .long ∧ kd = 1)) (hx0 : 0 ≤ x) (hsh : sh n = (kd, x.toNat)) (hn : n < 212) (hn1 : n + 1 ≤ n1)
    (hk : WP g l d k n0 n1 Q (pc + 2, lv, (2, (n : Int)) :: r, n + 1, hnew h n (fun _ => 0))) : WP g l d k n0 n1 Q (pc, lv, (0, x) :: r, n, h) := by
  intro p e R s m args below meth c Z E H locs ls q h0 h1
  obtain ⟨hx, hb, hml, hret, hlk, hown, hts, hin, hK⟩ := id E.1
  dsimp only at q h0 h1 ⊢
  have hHs : H.size = gsz g + n := q.1.1
  have hix : in32 x := ok1 q.2.2.2.1
  have hsm := sh_small hn
  rw [hsh] at hsm
  dsimp only at hsm
  have hcl : (Int32.ofInt x).toNatClampNeg = x.toNat := i32_cl hix
  have hx1 : ¬ Int32.ofInt x < 0 := by
    rw [show (0 : Int32) = Int32.ofInt 0 from rfl, i32_lt hix ⟨by decide, by decide⟩]; omega
  show W p l e R s m args below meth c H locs _ _ Z (F0 m pc ls (.int (Int32.ofInt x) :: r.map (cv g)))
  have hcb : componentBytes (newarray.typeOf ty) ≤ 8 := by
    rcases hty with ⟨q1, -⟩ | ⟨q1, -⟩ <;> rw [q1] <;> decide
  refine W.newa hx hb (hts _ (okW_in ht)) (g := F0 m pc ls (.int (Int32.ofInt x) :: r.map (cv g))) rfl hd rfl hx1 (by rw [hcl]; have := Nat.mul_le_mul (Nat.le_of_lt hsm) hcb; omega) (by have := E.2.1.2.2.1; omega) (by have := E.2.1.2.2.2; have e1 := slN_1 hn; have := slN_mono hn1; have := slN_mono h0; rw [hsh] at e1; dsimp only at e1; rw [hcl]; omega) fun cA kA comp f1 f2 f3 => ?_
  rw [hcl]
  have hkd : kd < 2 := by rcases hty with ⟨-, q1⟩ | ⟨-, q1⟩ <;> omega
  have hcA : cA = gA g kd := by
    rcases hty with ⟨q1, rfl⟩ | ⟨q1, rfl⟩
    · rw [q1] at f1
      exact Option.some.inj (f1.symm.trans hK.2.1.1.2)
    · rw [q1] at f1
      exact Option.some.inj (f1.symm.trans hK.2.1.2.1.2)
  have hk1 : (sh n).1 = kd := by rw [hsh]
  have hlk : ∀ j, lk n j = if kd = 0 then 0 else if kd = 1 then 1 else 2 := fun j => lk_arr hk1 (by omega)
  have hnew : HR g (n + 1) (hnew h n (fun _ => 0)) (H.push { cls := cA, slots := Array.replicate x.toNat (defaultValue (newarray.typeOf ty)), vm := .none }) := by
    refine q.1.new hn ?_ ?_ (by simp) (fun z hz => by rw [Array.getElem?_push]; rw [if_neg (by omega)])
    · unfold cellR
      rw [if_pos (by omega), hk1, ← hHs, hsh, hcA]
      rw [arrV_new]
      rw [Array.getElem?_push, if_pos rfl]
      refine congrArg some (congrArg (arrV (gA g kd) x.toNat) (funext fun j => ?_))
      rw [hlk]
      rcases hty with ⟨q1, rfl⟩ | ⟨q1, rfl⟩ <;> rw [q1] <;> rfl
    · intro j hj
      rw [hlk]
      rcases hty with ⟨q1, rfl⟩ | ⟨q1, rfl⟩
      · show in32 0; unfold in32; omega
      · show in64 0; unfold in64; omega
  have w := hk p e R s m args below meth c Z E _ locs ls ⟨hnew, q.2.1, q.2.2.1, okc (by show (-1 : Int) ≤ n; omega) (okr q.2.2.2.1), q.2.2.2.2⟩ (by show n0 ≤ n + 1; omega) hn1
  have en : n + 1 - n0 = n - n0 + 1 := by omega
  have es : slN (n + 1) - slN n0 = slN n - slN n0 + x.toNat := by
    rw [slN_1 hn, hsh]; have := slN_mono h0; dsimp only; omega
  dsimp only at w
  rw [en, es, List.map_cons, cv_n (by omega), ← hHs] at w
  exact w
theorem wp_anew {ix len widx aux pc n : Nat} {x : Int} {lv : bL} {r : List bV} {h : bH} (hd : decode (mcode k) pc = .ok (.anewarray ix, 3)) (ht : okW widx (.classLink (mown k) ix "BoxLeaves$Terms") = true) (hx0 : 0 ≤ x) (hsh : sh n = (2, x.toNat)) (hn : n < 212) (hn1 : n + 1 ≤ n1)
    (hk : WP g l d k n0 n1 Q (pc + 3, lv, (2, (n : Int)) :: r, n + 1, hnew h n (fun _ => -1))) : WP g l d k n0 n1 Q (pc, lv, (0, x) :: r, n, h) := by
  intro p e R s m args below meth c Z E H locs ls q h0 h1
  obtain ⟨hx, hb, hml, hret, hlk, hown, hts, hin, hK⟩ := id E.1
  dsimp only at q h0 h1 ⊢
  have hHs : H.size = gsz g + n := q.1.1
  have hix : in32 x := ok1 q.2.2.2.1
  have hsm := sh_small hn
  rw [hsh] at hsm
  dsimp only at hsm
  have hcl : (Int32.ofInt x).toNatClampNeg = x.toNat := i32_cl hix
  have hx1 : ¬ Int32.ofInt x < 0 := by
    rw [show (0 : Int32) = Int32.ofInt 0 from rfl, i32_lt hix ⟨by decide, by decide⟩]; omega
  show W p l e R s m args below meth c H locs _ _ Z (F0 m pc ls (.int (Int32.ofInt x) :: r.map (cv g)))
  refine W.anew hx hb hown (hts _ (okW_in ht)) hK.2.1.2.2.2.2.2.1.use (g := F0 m pc ls (.int (Int32.ofInt x) :: r.map (cv g))) rfl hd rfl hx1 (by rw [hcl]; omega) (by have := E.2.1.2.2.1; omega) (by have := E.2.1.2.2.2; have e1 := slN_1 hn; have := slN_mono hn1; have := slN_mono h0; rw [hsh] at e1; dsimp only at e1; rw [hcl]; omega) fun cA kA comp f1 f2 f3 f4 => ?_
  rw [hcl]
  have hcA : cA = gA g 2 := by
    obtain ⟨_, _, _, _, _, z4⟩ := hK.2.1.2.2.1.2
    exact Option.some.inj (f1.symm.trans z4)
  have hk1 : (sh n).1 = 2 := by rw [hsh]
  have hlk : ∀ j, lk n j = 2 := fun j => lk_arr hk1 (by omega)
  have hnew : HR g (n + 1) (hnew h n (fun _ => -1)) (H.push { cls := cA, slots := Array.replicate x.toNat .null, vm := .none }) := by
    refine q.1.new hn ?_ ?_ (by simp) (fun z hz => by rw [Array.getElem?_push]; rw [if_neg (by omega)])
    · unfold cellR
      rw [if_pos (by omega), hk1, ← hHs, hsh, hcA]
      rw [arrV_new]
      rw [Array.getElem?_push, if_pos rfl]
      refine congrArg some (congrArg (arrV (gA g 2) x.toNat) (funext fun j => ?_))
      rw [hlk]
      rfl
    · intro j hj
      rw [hlk]
      show (-1 : Int) ≤ -1; omega
  have w := hk p e R s m args below meth c Z E _ locs ls ⟨hnew, q.2.1, q.2.2.1, okc (by show (-1 : Int) ≤ n; omega) (okr q.2.2.2.1), q.2.2.2.2⟩ (by show n0 ≤ n + 1; omega) hn1
  have en : n + 1 - n0 = n - n0 + 1 := by omega
  have es : slN (n + 1) - slN n0 = slN n - slN n0 + x.toNat := by
    rw [slN_1 hn, hsh]; have := slN_mono h0; dsimp only; omega
  dsimp only at w
  rw [en, es, List.map_cons, cv_n (by omega), ← hHs] at w
  exact w
theorem wp_aast {pc n : Nat} {x i a : Int} {lv : bL} {r : List bV} {h : bH} (hd : decode (mcode k) pc = .ok (.aastore, 1)) (hbr : barr 2 n a i = true) (hx0 : 0 ≤ x) (hxn : x.toNat < n) (hsx : (sh x.toNat).1 = 18)
    (hk : WP g l d k n0 n1 Q (pc + 1, lv, r, n, hup h a.toNat i.toNat x)) : WP g l d k n0 n1 Q (pc, lv, (2, x) :: (0, i) :: (2, a) :: r, n, h) := by
  intro p e R s m args below meth c Z E H locs ls q h0 h1
  obtain ⟨hx, hb, hml, hret, hlk, hown, hts, hin, hK⟩ := id E.1
  dsimp only at q h0 h1 ⊢
  have hii : in32 i := ok1 (okr q.2.2.2.1)
  obtain ⟨e1, e2, e3⟩ := barr_sz q.1 hbr (by omega)
  obtain ⟨-, -, -, hi0, hiL⟩ := barr_x hbr
  have hn212 : n ≤ 212 := q.1.2.1
  show W p l e R s m args below meth c H locs _ _ Z (F0 m pc ls (cv g (2, x) :: .int (Int32.ofInt i) :: cv g (2, a) :: r.map (cv g)))
  rw [e1, cv_2 g hx0, ad_lo g (by omega)]
  obtain ⟨z, hz, h12, hzg, hzn, cellv, q1, q2, q3, q4⟩ := q.1.obj (cc := 8) hxn hsx
  obtain ⟨hS, hfc, kC, hkC, hkind⟩ := hK.1 _ _ hz
  obtain ⟨kA, comp, r1, r2, r3, r4⟩ := hK.2.1.2.2.1.2
  have hzT : z.1 = "BoxLeaves$Terms" := by
    have : kCls[8]? = some ("BoxLeaves$Terms", kF8, 13) := rfl
    rw [hz] at this
    exact congrArg (·.1) (Option.some.inj this)
  have hcomp : comp = gC g 8 := by
    rw [hzT] at hfc
    exact Option.some.inj (r3.symm.trans hfc)
  refine W.aast hx hb e2 (fun _ h => by cases h) (fun h => by cases h) (k := kA) (comp := comp) (t := .object "BoxLeaves$Terms") r1 r2 rfl (kcomp := kC) (by rw [hcomp]; exact hkC) (by rw [arrV_size, i32_cl hii]; exact ⟨by rw [show (0 : Int32) = Int32.ofInt 0 from rfl, i32_lt hii ⟨by decide, by decide⟩]; omega, hiL⟩) q1 (fun _ h => by rw [q3] at h; cases h) (kv := kC) (by rw [q2]; exact hkC) (by rw [q2, hcomp]; exact va_asg _ _) rfl rfl hd fun H' f1 f2 f3 => ?_
  rw [i32_cl hii] at f1 ⊢
  refine hk p e R s m args below meth c Z E H' _ ls ⟨q.1.seta hbr (by omega) (x := x) (by show (-1 : Int) ≤ x; omega) f1 ?_ f2 f3, q.2.1, q.2.2.1, okr (okr (okr q.2.2.2.1)), locs_app q.2.2.2.2 (Nat.le_add_right _ _)⟩ h0 h1
  rw [show cvk g (if (2 : Nat) = 0 then 0 else if (2 : Nat) = 1 then 1 else 2) x = Value.ref (gsz g + x.toNat) from by show cv g (2, x) = _; rw [cv_2 g hx0, ad_lo g (by omega)]]
theorem wp_obj {ix len widx pc n : Nat} {a : Int} {lv : bL} {r : List bV} {h : bH} (hd : decode (mcode k) pc = .ok (.invokespecial ix, 3)) (ht : okC k (.invokespecial ix, len, 1000, widx) ix = true) (ha : 0 ≤ a) (hr : stw r ≤ 8) (ho1 : (Jvm.Cond.instanceMethod Lib.objectInit) ∈ wA) (ho2 : Jvm.Cond.code Lib.objectInit ⟨#[0xb1]⟩ 1 none ∈ wA)
    (hk : WP g l d k n0 n1 Q (pc + 3, lv, r, n, h)) : WP g l d k n0 n1 Q (pc, lv, (2, a) :: r, n, h) := by
  intro p e R s m args below meth c Z E H locs ls q h0 h1
  obtain ⟨hx, hb, hml, hret, hlk, hown, hts, hin, hK⟩ := id E.1
  dsimp only at q h0 h1 ⊢
  have hlink : (Cond.methodLink (mown k) ix Lib.objectInit).before args s = true := by
    unfold okC at ht
    dsimp only at ht
    rw [if_neg (by omega), if_pos rfl] at ht
    exact hts _ (wd_in ht)
  show W p l e R s m args below meth c H locs _ _ Z (F0 m pc ls (cv g (2, a) :: r.map (cv g)))
  rw [cv_2 g ha]
  refine W.objInit hx hb hown hlink (wA_of hts _ ho1) (wA_of hts _ ho2) rfl (by rw [hml]; exact q.2.1.1) rfl hd (by have := E.2.1.1; omega) (by
    have h9 := lv_room (m := m) (pc := pc) (ls := ls) (rest := .ref (ad g a.toNat) :: r.map (cv g)) (st := r.map (cv g)) (by rw [stw_cat]; exact hr)
    have := E.2.1.2.1
    omega) ?_
  exact hk p e R s m args below meth c Z E H locs ls ⟨q.1, q.2.1, q.2.2.1, okr q.2.2.2.1, q.2.2.2.2⟩ h0 h1
end SA
