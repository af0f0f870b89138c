/-! ===== the model's instructions on numbers ===== -/
section MS
variable {β : Bool} {cd : Nat → Option Instr} {own pc k f : Nat} {rt : Option FieldType × Bool} {lo : jx_L} {st : List Value} {h : jx_H} {σ : mS} {T : jx_T}
theorem ml_fs {f : Nat} (hf : f < 47) : ((List.range 47).map (ml_fv σ))[f]? = some (ml_fv σ f) := by
  rw [List.getElem?_map, List.getElem?_range hf]
  rfl
theorem mg_v (hl : 49 ≤ h.length) (hf : jw_fld 34 k 16 = some f) (h47 : f < 47) {v : Value} (hv : ml_fv σ f = v) : jx_do (jz β) cd 34 pc rt (.getfield k) lo (.ref 15 :: st) (ml_mk h σ) = some (.inl (pc + 3, lo, v :: st, ml_mk h σ)) := js_getf (ml_15 hl) (by decide) hf ((ml_fs h47).trans (by rw [hv]))
theorem mg_i (hl : 49 ≤ h.length) {e : Int} (hv : σ f 0 = e) (hf : jw_fld 34 k 16 = some f) (h47 : f < 47) (hk : ml_kd f = 0) : jx_do (jz β) cd 34 pc rt (.getfield k) lo (.ref 15 :: st) (ml_mk h σ) = some (.inl (pc + 3, lo, .int (Int32.ofInt e) :: st, ml_mk h σ)) := mg_v hl hf h47 (by unfold ml_fv; rw [hk, hv]; rfl)
theorem mg_j (hl : 49 ≤ h.length) {e : Int} (hv : σ f 0 = e) (hf : jw_fld 34 k 16 = some f) (h47 : f < 47) (hk : ml_kd f = 1) : jx_do (jz β) cd 34 pc rt (.getfield k) lo (.ref 15 :: st) (ml_mk h σ) = some (.inl (pc + 3, lo, .long (Int64.ofInt e) :: st, ml_mk h σ)) := mg_v hl hf h47 (by unfold ml_fv; rw [hk, hv]; rfl)
theorem mg_a (hl : 49 ≤ h.length) {a : Nat} (hf : jw_fld 34 k 16 = some f) (h47 : ml_isA f = true) (ha : ml_ad f = a) : jx_do (jz β) cd 34 pc rt (.getfield k) lo (.ref 15 :: st) (ml_mk h σ) = some (.inl (pc + 3, lo, .ref a :: st, ml_mk h σ)) := by
  have hh : f < 47 := of_decide_eq_true ((Bool.and_eq_true _ _).mp h47).2
  have hk2 : 2 ≤ ml_kd f := of_decide_eq_true ((Bool.and_eq_true _ _).mp h47).1
  refine mg_v hl hf hh ?_
  unfold ml_fv
  split
  · omega
  · omega
  · rw [ha]
theorem mp_i (hl : 49 ≤ h.length) {x : Int} (hf : jw_fld 34 k 16 = some f) (h47 : f < 47) (hk : ml_kd f = 0) (hty : jw_ft 16 f = some .int) (hfm : jw_fm 34 16 f = some false) : jx_do (jz β) cd 34 pc rt (.putfield k) lo (.int (Int32.ofInt x) :: .ref 15 :: st) (ml_mk h σ) = some (.inl (pc + 3, lo, st, ml_mk h (su σ f 0 x))) := by
  have e := js_putf (T := jz β) (cd := cd) (own := 34) (pc := pc) (rt := rt) (lo := lo) (st := st) (v := .int (Int32.ofInt x)) (ml_15 (σ := σ) hl) (by decide) hf hty hfm rfl rfl rfl
  rw [ml_put hl h47 (by omega) (x := x) (by unfold ml_fv; rw [hk, su_eq]; rfl)] at e
  exact e
theorem mp_j (hl : 49 ≤ h.length) {x : Int} (hf : jw_fld 34 k 16 = some f) (h47 : f < 47) (hk : ml_kd f = 1) (hty : jw_ft 16 f = some .long) (hfm : jw_fm 34 16 f = some false) : jx_do (jz β) cd 34 pc rt (.putfield k) lo (.long (Int64.ofInt x) :: .ref 15 :: st) (ml_mk h σ) = some (.inl (pc + 3, lo, st, ml_mk h (su σ f 0 x))) := by
  have e := js_putf (T := jz β) (cd := cd) (own := 34) (pc := pc) (rt := rt) (lo := lo) (st := st) (v := .long (Int64.ofInt x)) (ml_15 (σ := σ) hl) (by decide) hf hty hfm rfl rfl rfl
  rw [ml_put hl h47 (by omega) (x := x) (by unfold ml_fv; rw [hk, su_eq]; rfl)] at e
  exact e
theorem mi_nat {i : Int} {n : Nat} (hn : n ≤ 2000) (h0 : 0 ≤ i) (h1 : i < n) : jx_in (Int32.ofInt i) n = true ∧ ((Int32.ofInt i).toNatClampNeg : Int) = i := by
  have e : (Int32.ofInt i).toInt = i := Int32.toInt_ofInt_of_le (by show (-2 ^ 31 : Int) ≤ i; omega) (by show i < (2 ^ 31 : Int); omega)
  have e2 : ((Int32.ofInt i).toNatClampNeg : Int) = i := by
    show (((Int32.ofInt i).toInt.toNat : Nat) : Int) = i
    rw [e]
    omega
  refine ⟨?_, e2⟩
  unfold jx_in
  have e3 : ¬ Int32.ofInt i < 0 := by
    rw [Int32.lt_iff_toInt_lt, e]
    show ¬ i < 0
    omega
  rw [decide_eq_false e3, decide_eq_true (by omega)]
  rfl
theorem ml_nle : ∀ f, f < 47 → ml_n f ≤ 2000 := by decide
theorem ma_i (hl : 49 ≤ h.length) {a : Nat} {i e : Int} (f : Nat) (h0 : 0 ≤ i) (h1 : i < ml_n f) (hv : σ f i = e) (h47 : ml_isA f = true) (hk : ml_kd f = 2) (ha : ml_ad f = a) : jx_do (jz β) cd own pc rt .iaload lo (.int (Int32.ofInt i) :: .ref a :: st) (ml_mk h σ) = some (.inl (pc + 1, lo, .int (Int32.ofInt e) :: st, ml_mk h σ)) := by
  have hh : f < 47 := of_decide_eq_true ((Bool.and_eq_true _ _).mp h47).2
  obtain ⟨i1, i2⟩ := mi_nat (ml_nle f hh) h0 h1
  have h2 := ml_at (σ := σ) hl h47
  rw [ha] at h2
  have hev : ml_ev σ f (Int32.ofInt i).toNatClampNeg = .int (Int32.ofInt e) := by
    unfold ml_ev
    rw [hk]
    show Value.int (Int32.ofInt (σ f _)) = _
    rw [i2, hv]
  have hty : jx_ty (jz β) (ml_et f) = some .int := by
    unfold ml_et
    rw [hk]
    rfl
  have e := js_ald (T := jz β) (ok := fun ty => match ty with | .int => true | _ => false) (pc := pc) (lo := lo) (st := st) h2 (by have := (ml_adP f hh h47).2.1; rw [ha] at this; exact Nat.lt_trans this (by decide)) hty rfl i1
  rw [hev] at e
  exact e
theorem ma_j (hl : 49 ≤ h.length) {a : Nat} {i e : Int} (f : Nat) (h0 : 0 ≤ i) (h1 : i < ml_n f) (hv : σ f i = e) (h47 : ml_isA f = true) (hk : ml_kd f = 3) (ha : ml_ad f = a) : jx_do (jz β) cd own pc rt .laload lo (.int (Int32.ofInt i) :: .ref a :: st) (ml_mk h σ) = some (.inl (pc + 1, lo, .long (Int64.ofInt e) :: st, ml_mk h σ)) := by
  have hh : f < 47 := of_decide_eq_true ((Bool.and_eq_true _ _).mp h47).2
  obtain ⟨i1, i2⟩ := mi_nat (ml_nle f hh) h0 h1
  have h2 := ml_at (σ := σ) hl h47
  rw [ha] at h2
  have hev : ml_ev σ f (Int32.ofInt i).toNatClampNeg = .long (Int64.ofInt e) := by
    unfold ml_ev
    rw [hk]
    show Value.long (Int64.ofInt (σ f _)) = _
    rw [i2, hv]
  have hty : jx_ty (jz β) (ml_et f) = some .long := by
    unfold ml_et
    rw [hk]
    rfl
  have e := js_ald (T := jz β) (ok := fun ty => match ty with | .long => true | _ => false) (pc := pc) (lo := lo) (st := st) h2 (by have := (ml_adP f hh h47).2.1; rw [ha] at this; exact Nat.lt_trans this (by decide)) hty rfl i1
  rw [hev] at e
  exact e
theorem ms_i (hl : 49 ≤ h.length) {a : Nat} {i x : Int} (f : Nat) (h0 : 0 ≤ i) (h1 : i < ml_n f) (h47 : ml_isA f = true) (hk : ml_kd f = 2) (ha : ml_ad f = a) : jx_do (jz β) cd own pc rt .iastore lo (.int (Int32.ofInt x) :: .int (Int32.ofInt i) :: .ref a :: st) (ml_mk h σ) = some (.inl (pc + 1, lo, st, ml_mk h (su σ f i x))) := by
  have hh : f < 47 := of_decide_eq_true ((Bool.and_eq_true _ _).mp h47).2
  obtain ⟨i1, i2⟩ := mi_nat (ml_nle f hh) h0 h1
  have h2 := ml_at (σ := σ) hl h47
  have hty : jx_ty (jz β) (ml_et f) = some .int := by
    unfold ml_et
    rw [hk]
    rfl
  have e := js_ast (T := jz β) (ok := fun ty => match ty with | .int => true | _ => false) (pc := pc) (lo := lo) (st := st) (v := .int (Int32.ofInt x)) h2 (Nat.lt_trans (ml_adP f hh h47).2.1 (by decide)) hty rfl rfl i1
  rw [show narrow .int (.int (Int32.ofInt x)) = .int (Int32.ofInt x) from rfl, ml_sto hl (x := x) h47 (by unfold ml_ev; rw [hk, su_eq]; rfl), i2, ha] at e
  exact e
theorem ms_j (hl : 49 ≤ h.length) {a : Nat} {i x : Int} (f : Nat) (h0 : 0 ≤ i) (h1 : i < ml_n f) (h47 : ml_isA f = true) (hk : ml_kd f = 3) (ha : ml_ad f = a) : jx_do (jz β) cd own pc rt .lastore lo (.long (Int64.ofInt x) :: .int (Int32.ofInt i) :: .ref a :: st) (ml_mk h σ) = some (.inl (pc + 1, lo, st, ml_mk h (su σ f i x))) := by
  have hh : f < 47 := of_decide_eq_true ((Bool.and_eq_true _ _).mp h47).2
  obtain ⟨i1, i2⟩ := mi_nat (ml_nle f hh) h0 h1
  have h2 := ml_at (σ := σ) hl h47
  have hty : jx_ty (jz β) (ml_et f) = some .long := by
    unfold ml_et
    rw [hk]
    rfl
  have e := js_ast (T := jz β) (ok := fun ty => match ty with | .long => true | _ => false) (pc := pc) (lo := lo) (st := st) (v := .long (Int64.ofInt x)) h2 (Nat.lt_trans (ml_adP f hh h47).2.1 (by decide)) hty rfl rfl i1
  rw [show narrow .long (.long (Int64.ofInt x)) = .long (Int64.ofInt x) from rfl, ml_sto hl (x := x) h47 (by unfold ml_ev; rw [hk, su_eq]; rfl), i2, ha] at e
  exact e
/-! arithmetic, on any tables -/
theorem mt_add {a b c : Int} (hc : a + b = c) : jx_do T cd own pc rt .iadd lo (.int (Int32.ofInt b) :: .int (Int32.ofInt a) :: st) h = some (.inl (pc + 1, lo, .int (Int32.ofInt c) :: st, h)) := by
  simp only [jx_do, ← hc, Int32.ofInt_add]
theorem mt_sub {a b c : Int} (hc : a - b = c) : jx_do T cd own pc rt .isub lo (.int (Int32.ofInt b) :: .int (Int32.ofInt a) :: st) h = some (.inl (pc + 1, lo, .int (Int32.ofInt c) :: st, h)) := by
  simp only [jx_do, ← hc, Int32.ofInt_sub]
theorem mt_mul {a b c : Int} (hc : a * b = c) : jx_do T cd own pc rt .imul lo (.int (Int32.ofInt b) :: .int (Int32.ofInt a) :: st) h = some (.inl (pc + 1, lo, .int (Int32.ofInt c) :: st, h)) := by
  simp only [jx_do, ← hc, Int32.ofInt_mul]
theorem mt_neg {a c : Int} (hc : -a = c) : jx_do T cd own pc rt .ineg lo (.int (Int32.ofInt a) :: st) h = some (.inl (pc + 1, lo, .int (Int32.ofInt c) :: st, h)) := by
  simp only [jx_do, ← hc, Int32.ofInt_neg]
theorem mt_bi {n : Int} (e : (Int8.ofInt n).toInt32 = Int32.ofInt n) : jx_do T cd own pc rt (.bipush n) lo st h = some (.inl (pc + 2, lo, .int (Int32.ofInt n) :: st, h)) := by
  simp only [jx_do, e]
theorem mt_si {n : Int} (e : (Int16.ofInt n).toInt32 = Int32.ofInt n) : jx_do T cd own pc rt (.sipush n) lo st h = some (.inl (pc + 3, lo, .int (Int32.ofInt n) :: st, h)) := by
  simp only [jx_do, e]
theorem mt_inc {j : Nat} {n a c : Int} {lo2 : jx_L} (hv : lo[j]? = some (some (.int (Int32.ofInt a)))) (hc : a + n = c) (h2 : jx_st1 lo j (.int (Int32.ofInt c)) = lo2) : jx_do T cd own pc rt (.iinc j n) lo st h = some (.inl (pc + 3, lo2, st, h)) := by
  simp only [jx_do, hv, ← h2, ← hc, Int32.ofInt_add]
def mr (a : Int) : Prop := -2147483648 ≤ a ∧ a ≤ 2147483647
theorem mr_i {a : Int} (h : mr a) : (Int32.ofInt a).toInt = a := Int32.toInt_ofInt_of_le (by have := h.1; show (-2 ^ 31 : Int) ≤ a; omega) (by have := h.2; show a < (2 ^ 31 : Int); omega)
theorem mh_lt {a b : Int} (ha : mr a) (hb : mr b) : jx_hold .lt (Int32.ofInt a) (Int32.ofInt b) = decide (a < b) := by
  show decide (Int32.ofInt a < Int32.ofInt b) = _
  simp only [Int32.lt_iff_toInt_lt, mr_i ha, mr_i hb]
theorem mh_le {a b : Int} (ha : mr a) (hb : mr b) : jx_hold .le (Int32.ofInt a) (Int32.ofInt b) = decide (a ≤ b) := by
  show decide (Int32.ofInt a ≤ Int32.ofInt b) = _
  simp only [Int32.le_iff_toInt_le, mr_i ha, mr_i hb]
theorem mh_gt {a b : Int} (ha : mr a) (hb : mr b) : jx_hold .gt (Int32.ofInt a) (Int32.ofInt b) = decide (b < a) := by
  show decide (Int32.ofInt b < Int32.ofInt a) = _
  simp only [Int32.lt_iff_toInt_lt, mr_i ha, mr_i hb]
theorem mh_ge {a b : Int} (ha : mr a) (hb : mr b) : jx_hold .ge (Int32.ofInt a) (Int32.ofInt b) = decide (b ≤ a) := by
  show decide (Int32.ofInt b ≤ Int32.ofInt a) = _
  simp only [Int32.le_iff_toInt_le, mr_i ha, mr_i hb]
theorem mr_inj {a b : Int} (ha : mr a) (hb : mr b) : Int32.ofInt a = Int32.ofInt b ↔ a = b := by
  constructor
  · intro e
    rw [← mr_i ha, ← mr_i hb, e]
  · intro e
    rw [e]
theorem mh_eq {a b : Int} (ha : mr a) (hb : mr b) : jx_hold .eq (Int32.ofInt a) (Int32.ofInt b) = decide (a = b) := by
  show (Int32.ofInt a == Int32.ofInt b) = _
  by_cases e : a = b
  · subst e
    simp
  · rw [decide_eq_false e]
    exact beq_false_of_ne fun z => e ((mr_inj ha hb).mp z)
theorem mh_ne {a b : Int} (ha : mr a) (hb : mr b) : jx_hold .ne (Int32.ofInt a) (Int32.ofInt b) = decide (¬ a = b) := by
  have e := mh_eq ha hb
  have e : (Int32.ofInt a == Int32.ofInt b) = decide (a = b) := e
  show (!(Int32.ofInt a == Int32.ofInt b)) = _
  rw [e]
  simp
/-- a branch on two numbers: taken, or not -/
def mq (q : Jvm.ClassFile.Cond) (a b : Int) : Prop := match q with
  | .eq => a = b
  | .ne => ¬ a = b
  | .lt => a < b
  | .ge => b ≤ a
  | .gt => b < a
  | .le => a ≤ b
theorem mh_q {q : Jvm.ClassFile.Cond} {a b : Int} (ha : mr a) (hb : mr b) : (mq q a b → jx_hold q (Int32.ofInt a) (Int32.ofInt b) = true) ∧ (¬ mq q a b → jx_hold q (Int32.ofInt a) (Int32.ofInt b) = false) := by
  cases q
  case eq => rw [mh_eq ha hb]; exact ⟨fun z => decide_eq_true z, fun z => decide_eq_false z⟩
  case ge => rw [mh_ge ha hb]; exact ⟨fun z => decide_eq_true z, fun z => decide_eq_false z⟩
  case gt => rw [mh_gt ha hb]; exact ⟨fun z => decide_eq_true z, fun z => decide_eq_false z⟩
  case le => rw [mh_le ha hb]; exact ⟨fun z => decide_eq_true z, fun z => decide_eq_false z⟩
  case lt => rw [mh_lt ha hb]; exact ⟨fun z => decide_eq_true z, fun z => decide_eq_false z⟩
  case ne => rw [mh_ne ha hb]; exact ⟨fun z => decide_eq_true z, fun z => decide_eq_false z⟩
theorem mb_t {q : Jvm.ClassFile.Cond} {off : Int} {t : Nat} {a b : Int} (hq : mq q a b) (ha : mr a) (hb : mr b) (h0 : 0 ≤ (pc : Int) + off) (ht : jx_to pc off = some t) : jx_do T cd own pc rt (.if_icmp q off) lo (.int (Int32.ofInt b) :: .int (Int32.ofInt a) :: st) h = some (.inl (t, lo, st, h)) := jr_br ((mh_q ha hb).1 hq) h0 ht
theorem mb_f {q : Jvm.ClassFile.Cond} {off : Int} {a b : Int} (hq : ¬ mq q a b) (ha : mr a) (hb : mr b) (h0 : 0 ≤ (pc : Int) + off) : jx_do T cd own pc rt (.if_icmp q off) lo (.int (Int32.ofInt b) :: .int (Int32.ofInt a) :: st) h = some (.inl (pc + 3, lo, st, h)) := jr_br ((mh_q ha hb).2 hq) h0 rfl
theorem mz_if {q : Jvm.ClassFile.Cond} {off : Int} {t : Nat} {x : Int32} {b : Bool} (e : jx_hold q x 0 = b) (h0 : 0 ≤ (pc : Int) + off) (ht : (bif b then jx_to pc off else some (pc + 3)) = some t) : jx_do T cd own pc rt (.ifCond q off) lo (.int x :: st) h = some (.inl (t, lo, st, h)) := by
  simp only [jx_do, e, jx_br, if_pos h0]
  cases b
  · cases ht
    rfl
  · simp only [jx_go]
    rw [show jx_to pc off = some t from ht]
theorem mr0 : mr 0 := ⟨by decide, by decide⟩
theorem mz_t {q : Jvm.ClassFile.Cond} {off : Int} {t : Nat} {a : Int} (hq : mq q a 0) (ha : mr a) (h0 : 0 ≤ (pc : Int) + off) (ht : jx_to pc off = some t) : jx_do T cd own pc rt (.ifCond q off) lo (.int (Int32.ofInt a) :: st) h = some (.inl (t, lo, st, h)) := mz_if ((mh_q ha mr0).1 hq) h0 ht
theorem mz_f {q : Jvm.ClassFile.Cond} {off : Int} {a : Int} (hq : ¬ mq q a 0) (ha : mr a) (h0 : 0 ≤ (pc : Int) + off) : jx_do T cd own pc rt (.ifCond q off) lo (.int (Int32.ofInt a) :: st) h = some (.inl (pc + 3, lo, st, h)) := mz_if ((mh_q ha mr0).2 hq) h0 rfl
/-- a call on the model -/
theorem mc_v {n m2 : Nat} {l : List (Nat × Nat)} {bs r : List Value} (hl : 49 ≤ h.length) (hcv : jw_find jw_cvT own k = some (n, l)) (hg : jw_ls l 16 = some m2) (hn : bs.length = n) (hst : st = bs.reverse ++ .ref 15 :: r) (hw : jx_wt r = true) : jx_do (jz β) cd own pc rt (.invokevirtual k) lo st (ml_mk h σ) = some (.inr (.inl (m2, .ref 15 :: bs, r))) := by
  have e1 : jx_cv (jz β) own k = some (n, jw_ls l) := by
    show jw_cv own k = _
    unfold jw_cv
    rw [hcv]
  have e2 : jx_args n st = some (bs, .ref 15 :: r) := by
    subst hn
    subst hst
    unfold jx_args
    rw [if_pos (by simp)]
    rw [← List.length_reverse, List.take_left, List.drop_left, List.reverse_reverse]
  have e3 : jx_cls (jz β) (ml_mk h σ) 15 = some 16 := js_cls (ml_15 hl) (by decide)
  simp only [jx_do, e1, e2, e3, hg, hw]
  rfl
theorem mc_s {n m2 : Nat} {bs r : List Value} (hbi : jw_biB own k = none) (hcs : jw_find jw_csT own k = some (m2, n)) (hn : bs.length = n) (hst : st = bs.reverse ++ r) (hw : jx_wt r = true) : jx_do (jz β) cd own pc rt (.invokestatic k) lo st h = some (.inr (.inl (m2, bs, r))) := by
  have e0 : jx_bi (jz β) own k = none := hbi
  have e1 : jx_cs (jz β) own k = some (m2, n) := hcs
  have e2 : jx_args n st = some (bs, r) := by
    subst hn
    subst hst
    unfold jx_args
    rw [if_pos (by simp)]
    rw [← List.length_reverse, List.take_left, List.drop_left, List.reverse_reverse]
  simp only [jx_do, e0, e1, e2, hw]
  rfl
end MS
