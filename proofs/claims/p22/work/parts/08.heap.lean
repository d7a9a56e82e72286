section ST3
variable {g : bG} {l : Launch} {d k n0 n1 : Nat} {Q : bQ} {p : Program} {e : Env} {R : Room} {s : State} {m : MethodId} {args : Array Value} {below : List Frame} {meth : Method} {c : Code} {Z : State → Prop}
theorem lk_obj {a j c : Nat} (h : (sh a).1 = 10 + c) : lk a j = fkd c j := by
  unfold lk
  rw [h]
  split
  · omega
  · omega
  · omega
  · omega
  · rw [Nat.add_sub_cancel_left]
theorem lk_arr {a j kd : Nat} (h : (sh a).1 = kd) (h4 : kd < 4) : lk a j = if kd = 0 then 0 else if kd = 1 then 1 else 2 := by
  unfold lk
  rw [h]
  match kd, h4 with
  | 0, _ => rfl
  | 1, _ => rfl
  | 2, _ => rfl
  | 3, _ => rfl
theorem cvk_kOf (g : bG) (t : Nat) (x : Int) : cvk g (kOf t) x = cvk g t x := by
  unfold kOf
  split
  · rename_i h; subst h; rfl
  · rfl
theorem okk_kOf {t : Nat} {x : Int} (h : okk t x) : okk (kOf t) x := by
  unfold kOf
  split
  · rename_i q; subst q
    have h2 : 0 ≤ x ∧ x ≤ 1 := h
    show in32 x
    unfold in32; omega
  · exact h
/-- a putfield's words -/
def wd_p (k ix widx : Nat) (z : vw_C) (j : Nat) : Prop := (Jvm.Cond.fieldLink (mown k) ix (z.2.1 j).1 (z.2.1 j).2.1 (z.2.1 j).2.2.1) ∈ wsm k ∧ ((z.2.1 j).2.2.2 = true → (z.2.1 j).1 = mown k)
theorem bobj_x {aux n : Nat} {a : Int} (h : bobj aux n a = true) : 0 ≤ a ∧ a.toNat < n ∧ (sh a.toNat).1 = 10 + aux / 64 ∧ aux % 64 < (sh a.toNat).2 := by
  unfold bobj at h
  simp only [Bool.and_eq_true, decide_eq_true_eq, beq_iff_eq] at h
  exact h
theorem barr_x {kd n : Nat} {a i : Int} (h : barr kd n a i = true) : 0 ≤ a ∧ a.toNat < n ∧ (sh a.toNat).1 = kd ∧ 0 ≤ i ∧ i.toNat < (sh a.toNat).2 := by
  unfold barr at h
  simp only [Bool.and_eq_true, decide_eq_true_eq, beq_iff_eq] at h
  exact h
theorem HR.obj {n : Nat} {h : bH} {H : Heap} (q : HR g n h H) {a cc : Nat} (ha : a < n) (hs : (sh a).1 = 10 + cc) : ∃ z : vw_C, kCls[cc]? = some z ∧ cc < 12 ∧ kCls.getD cc ("", kF0, 0) = z ∧ z.2.2 = (sh a).2 ∧ t_OB (gsz g + a) (gC g cc) (sh a).2 (gI g cc) H (fun j => cvk g (fkd cc j) (h a j)) := by
  obtain ⟨q1, q2, q3, q4⟩ := q
  have hk := kSh_ok a (by omega)
  have h12 := (hk.1 (by omega))
  rw [hs, Nat.add_sub_cancel_left] at h12
  have hz : kCls[cc]? = some (kCls.getD cc ("", kF0, 0)) := by
    rw [List.getD_eq_getElem?_getD]
    have : cc < kCls.length := by rw [kCls_len]; exact h12.2
    rw [List.getElem?_eq_getElem this]; rfl
  refine ⟨_, hz, h12.2, rfl, h12.1, ?_⟩
  have hc := (q4 a ha).1
  unfold cellR at hc
  rw [if_neg (by omega), hs, Nat.add_sub_cancel_left] at hc
  refine t_OB.to hc fun j _ => ?_
  show cvk g (lk a j) (h a j) = _
  rw [lk_obj hs]
theorem HR.arr {n : Nat} {h : bH} {H : Heap} (q : HR g n h H) {a kd : Nat} (ha : a < n) (hs : (sh a).1 = kd) (h4 : kd < 10) : H[gsz g + a]? = some (arrV (gA g kd) (sh a).2 (fun j => cvk g (lk a j) (h a j))) := by
  have hc := (q.2.2.2 a ha).1
  unfold cellR at hc
  rw [if_pos (by omega), hs] at hc
  exact hc
theorem st_get {ix aux widx len : Nat} {S S' : bS} (C : Cx g k p s m args meth c) (hd : decode (mcode k) S.1 = .ok (.getfield ix, 3)) (ht : okT k (.getfield ix, len, aux, widx) = true) (h : bget aux S = some S') (hk : Wg g l k n0 p e R s m args below meth c Z S') : Wg g l k n0 p e R s m args below meth c Z S := by
  intro H locs ls q
  obtain ⟨hx, hb, hml, hret, hlk, hown, hts, hin, hK⟩ := C
  obtain ⟨pc, lv, st, n, hh⟩ := S
  obtain ⟨a, r, rfl, hbo, rfl⟩ := bget_x h
  obtain ⟨ha0, han, hsh, hj⟩ := bobj_x hbo
  obtain ⟨z, hz, h12, hzg, hzn, cell, q1, q2, q3, q4⟩ := q.1.obj han hsh
  have hj2 : aux % 64 < z.2.2 := by rw [hzn]; exact hj
  obtain ⟨hS, hfc, kC, hkC, hkind⟩ := hK.1 _ _ hz
  obtain ⟨cf, kf, fi, f, hi, hsl⟩ := hS _ hj2
  have hlink : (Cond.fieldLink (mown k) ix (z.2.1 (aux % 64)).1 (z.2.1 (aux % 64)).2.1 (z.2.1 (aux % 64)).2.2.1).before args s = true := by
    unfold okT at ht
    rw [Bool.and_eq_true] at ht
    have h2 := ht.2
    dsimp only at h2
    rw [if_neg (by omega), hz] at h2
    exact hts _ (wd_in h2)
  show W p l e R s m args below meth c H locs _ _ Z (F0 m pc ls (cv g (2, a) :: r.map (cv g)))
  have hn212 : n ≤ 212 := q.1.2.1
  rw [cv_2 g ha0, ad_lo g (by omega)]
  refine W.getf hx hb hown hlink hi (u_facts hfc hkC (u_lays hts (u_ws_in hz) hj2) hi).1 q1 (by rw [q3]; exact fun h => by cases h) (v := cvk g (fkd (aux / 64) (aux % 64)) (hh a.toNat (aux % 64))) (by rw [hsl]; exact q4 _ hj) rfl rfl hd ?_
  have hok : okk (fkd (aux / 64) (aux % 64)) (hh a.toNat (aux % 64)) := by
    have := (q.1.2.2.2 _ han).2 _ hj
    rw [lk_obj hsh] at this
    exact this
  have zz : W p l e R s m args below meth c H locs (n - n0) (slN n - slN n0) Z (F0 m (pc + 3) ls (cv g (kOf (fkd (aux / 64) (aux % 64)), hh a.toNat (aux % 64)) :: r.map (cv g))) := hk H locs ls (q.stk (okc (okk_kOf hok) (okr q.2.2.2.1)))
  have e2 : cv g (kOf (fkd (aux / 64) (aux % 64)), hh a.toNat (aux % 64)) = cvk g (fkd (aux / 64) (aux % 64)) (hh a.toNat (aux % 64)) := cvk_kOf g _ _
  rw [e2] at zz
  exact zz
theorem narrow_ok {ty : FieldType} {t : Nat} {x : Int} (hf : fkt ty = t) (h4 : t < 4) (h : okk t x) : narrow ty (cvk g t x) = cvk g t x ∧ fits ty (cvk g t x) = true := by
  subst hf
  cases ty with
  | int => exact ⟨rfl, rfl⟩
  | long => exact ⟨rfl, rfl⟩
  | boolean =>
    have h2 : 0 ≤ x ∧ x ≤ 1 := h
    have h3 : x = 0 ∨ x = 1 := by omega
    rcases h3 with rfl | rfl
    · exact ⟨(by decide : narrow .boolean (.int (Int32.ofInt 0)) = .int (Int32.ofInt 0)), (by decide : fits .boolean (.int (Int32.ofInt 0)) = true)⟩
    · exact ⟨(by decide : narrow .boolean (.int (Int32.ofInt 1)) = .int (Int32.ofInt 1)), (by decide : fits .boolean (.int (Int32.ofInt 1)) = true)⟩
  | object n =>
    show narrow (.object n) (if x < 0 then Value.null else Value.ref (ad g x.toNat)) = (if x < 0 then Value.null else Value.ref (ad g x.toNat)) ∧ fits (.object n) (if x < 0 then Value.null else Value.ref (ad g x.toNat)) = true
    split <;> exact ⟨rfl, rfl⟩
  | array n =>
    show narrow (.array n) (if x < 0 then Value.null else Value.ref (ad g x.toNat)) = (if x < 0 then Value.null else Value.ref (ad g x.toNat)) ∧ fits (.array n) (if x < 0 then Value.null else Value.ref (ad g x.toNat)) = true
    split <;> exact ⟨rfl, rfl⟩
  | byte => exact absurd h4 (by decide)
  | char => exact absurd h4 (by decide)
  | short => exact absurd h4 (by decide)
  | float => exact absurd h4 (by decide)
  | double => exact absurd h4 (by decide)
theorem hup_at {h : bH} {a j i : Nat} {x : Int} : hup h a j x a i = if i = j then x else h a i := by
  show (if a = a ∧ i = j then x else h a i) = _
  simp
theorem locs_app {g : bG} {locs : List Loc} {a i : Nat} (h : ∀ q ∈ locs, gsz g ≤ q.base) (ha : gsz g ≤ a) : ∀ q ∈ locs ++ [⟨a, i⟩], gsz g ≤ q.base := by
  intro q hq
  rcases List.mem_append.mp hq with hq | hq
  · exact h q hq
  · rw [List.mem_singleton] at hq; subst hq; exact ha
theorem st_put {ix aux widx len : Nat} {S S' : bS} (C : Cx g k p s m args meth c) (hd : decode (mcode k) S.1 = .ok (.putfield ix, 3)) (ht : okT k (.putfield ix, len, aux, widx) = true) (h : bput k aux S = some S') (hk : Wg g l k n0 p e R s m args below meth c Z S') : Wg g l k n0 p e R s m args below meth c Z S := by
  intro H locs ls q
  obtain ⟨hx, hb, hml, hret, hlk, hown, hts, hin, hK⟩ := C
  obtain ⟨pc, lv, st, n, hh⟩ := S
  obtain ⟨x, a, r, rfl, hbo, hbool, hfin, rfl⟩ := bput_x h
  obtain ⟨ha0, han, hsh, hj⟩ := bobj_x hbo
  obtain ⟨z, hz, h12, hzg, hzn, cell, q1, q2, q3, q4⟩ := q.1.obj han hsh
  have hj2 : aux % 64 < z.2.2 := by rw [hzn]; exact hj
  obtain ⟨hS, hfc, kC, hkC, hkind⟩ := hK.1 _ _ hz
  obtain ⟨cf, kf, fi, f, hi, hsl⟩ := hS _ hj2
  have hF := kF_ty _ h12 (aux % 64) (by rw [hzg]; exact hj2)
  rw [hzg] at hF
  obtain ⟨hty, hfk, h4⟩ := hF
  have htt : wd_p k ix widx z (aux % 64) := by
    unfold okT at ht
    rw [Bool.and_eq_true] at ht
    have h2 := ht.2
    dsimp only at h2
    rw [hz] at h2
    dsimp only at h2
    rw [Bool.and_eq_true] at h2
    exact ⟨wd_in h2.1, fun hf => by have h3 := h2.2; rw [hf] at h3; simpa using h3⟩
  have hlink := hts _ htt.1
  have hokx : okk (fkd (aux / 64) (aux % 64)) x := by
    have h1 : okk (kOf (fkd (aux / 64) (aux % 64))) x := ok1 q.2.2.2.1
    unfold kOf at h1
    split at h1
    · rename_i h3; rw [h3]; exact hbool h3
    · exact h1
  obtain ⟨hnar, hfit⟩ := narrow_ok (g := g) hfk h4 hokx
  have hn212 : n ≤ 212 := q.1.2.1
  have hadd : ad g a.toNat = gsz g + a.toNat := ad_lo g (by omega)
  show W p l e R s m args below meth c H locs _ _ Z (F0 m pc ls (cv g (kOf (fkd (aux / 64) (aux % 64)), x) :: cv g (2, a) :: r.map (cv g)))
  have e2 : cv g (kOf (fkd (aux / 64) (aux % 64)), x) = cvk g (fkd (aux / 64) (aux % 64)) x := cvk_kOf g _ _
  rw [e2, cv_2 g ha0, hadd]
  have hlay := hts _ (u_ws_in hz _ (u_in_lay hj2))
  have hst := (u_facts hfc hkC (u_lays hts (u_ws_in hz) hj2) hi).1
  have hap : ∀ a b, a < z.2.2 → b < z.2.2 → a ≠ b → gI g (aux / 64) a ≠ gI g (aux / 64) b := by
    intro a' b' h1 h2 hne
    obtain ⟨_, _, _, fa, hia, ea⟩ := hS a' h1
    obtain ⟨_, _, _, fb, hib, eb⟩ := hS b' h2
    rw [← ea, ← eb]
    have ta := (kF_ty _ h12 a' (by rw [hzg]; exact h1)).1
    have tb := (kF_ty _ h12 b' (by rw [hzg]; exact h2)).1
    rw [hzg] at ta tb
    refine u_apart (u_lays hts (u_ws_in hz) h1) (u_lays hts (u_ws_in hz) h2) hia hib ?_
    rw [(State.fieldFound?_type hia ta).1, (State.fieldFound?_type hib tb).1]
    exact kF_nm z (List.mem_of_getElem? hz) a' h1 b' h2 hne
  have hgo : ∀ H' : Heap, H'[gsz g + a.toNat]? = some (cell.setSlot (gI g (aux / 64) (aux % 64)) (cvk g (fkd (aux / 64) (aux % 64)) x)) → H'.size = H.size → (∀ q : Nat, q ≠ gsz g + a.toNat → H'[q]? = H[q]?) → W p l e R s m args below meth c H' (locs ++ [⟨gsz g + a.toNat, gI g (aux / 64) (aux % 64)⟩]) (n - n0) (slN n - slN n0) Z (F0 m (pc + 3) ls (r.map (cv g))) := by
    intro H' e1 e2 e3
    have hset : HR g n (hup hh a.toNat (aux % 64) x) H' := by
      refine q.1.set han (fun _ => by rw [lk_obj hsh]; exact hokx) ?_ e2 e3
      unfold cellR
      rw [if_neg (by omega), hsh, Nat.add_sub_cancel_left]
      refine ⟨_, e1, q2, q3, fun j hj3 => ?_⟩
      have := t_set q4 (fun a b h1 h2 => hap a b (by rw [hzn]; exact h1) (by rw [hzn]; exact h2)) hj (cvk g (fkd (aux / 64) (aux % 64)) x) j hj3
      rw [this]
      show some (updV _ _ _ j) = some (cvk g (lk a.toNat j) (hup hh a.toNat (aux % 64) x a.toNat j))
      rw [hup_at, lk_obj hsh]
      unfold updV
      split
      · rename_i h5; rw [h5]
      · rfl
    exact hk H' _ ls ⟨hset, q.2.1, q.2.2.1, okr (okr q.2.2.2.1), locs_app q.2.2.2.2 (Nat.le_add_right _ _)⟩
  have hslot : cell.slots[gI g (aux / 64) (aux % 64)]? = some (cvk g (fkd (aux / 64) (aux % 64)) (hh a.toNat (aux % 64))) := q4 _ hj
  cases hfl : (z.2.1 (aux % 64)).2.2.2 with
  | false =>
    unfold u_lay at hlay
    rw [if_neg (by rw [hfl]; decide)] at hlay
    have h6 := u_store hfc hkC hkind hlay hi hty hnar hfit
    refine W.putK hx hb (f := f) ⟨hown, hlink, ⟨_, _, _, hi⟩, hst⟩ (by rw [q2]; exact h6) q1 q3 (by rw [hsl]; exact k2_hasslot hslot) rfl rfl hd fun H' e1 e2 e3 => ?_
    rw [hsl] at e1 ⊢
    exact hgo H' e1 e2 e3
  | true =>
    unfold u_lay at hlay
    rw [if_pos hfl] at hlay
    have hcf : m.cls = cf := by
      obtain ⟨_, _, c', _, _, _, -, -, hf', -, -, -, hown2, -⟩ := Cond.laysFinal_spec hlay
      have e1 : c' = cf := by have := hi.symm.trans hf'; simp at this; exact this.1.symm
      rw [htt.2 hfl] at hown2
      rw [← e1]; exact Option.some.inj (hown.symm.trans hown2)
    have hin2 : meth.name = "<init>" := hin (hfin (by unfold bfin; rw [hz]; exact hfl))
    have h6 := u_fits hfc hkC hkind (Or.inr hlay) hi hty hnar hfit
    refine W.putFinK hx hb hown hlink hi hst hcf hin2 (by rw [q2]; exact h6) q1 q3 (by rw [hsl]; exact k2_hasslot hslot) rfl rfl hd fun H' e1 e2 e3 => ?_
    rw [hsl] at e1 ⊢
    exact hgo H' e1 e2 e3
end ST3
