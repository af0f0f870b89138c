/-! ===== the instructions that touch the frame alone ===== -/
theorem jx_go_some {pc : Nat} {off : Int} {lo : jx_L} {st : List Value} {h : jx_H} {F : jx_F} (hg : jx_go pc off lo st h = some (.inl F)) : ∃ t : Nat, (pc : Int) + off = (t : Int) ∧ F = (t, lo, st, h) := by
  unfold jx_go jx_to at hg
  by_cases h0 : 0 ≤ (pc : Int) + off
  · rw [if_pos h0] at hg
    cases hg
    exact ⟨_, (Int.toNat_of_nonneg h0).symm, rfl⟩
  · rw [if_neg h0] at hg
    cases hg
theorem jx_br_some {b : Bool} {pc : Nat} {off : Int} {lo : jx_L} {st : List Value} {h : jx_H} {F : jx_F} (hg : jx_br b pc off lo st h = some (.inl F)) : ∃ t : Nat, (pc : Int) + off = (t : Int) ∧ ((b = true ∧ F = (t, lo, st, h)) ∨ (b = false ∧ F = (pc + 3, lo, st, h))) := by
  unfold jx_br at hg
  by_cases h0 : 0 ≤ (pc : Int) + off
  · rw [if_pos h0] at hg
    cases b with
    | true =>
      obtain ⟨t, ht, hF⟩ := jx_go_some hg
      exact ⟨t, ht, Or.inl ⟨rfl, hF⟩⟩
    | false =>
      cases hg
      exact ⟨_, (Int.toNat_of_nonneg h0).symm, Or.inr ⟨rfl, rfl⟩⟩
  · rw [if_neg h0] at hg
    cases hg
def jx_pure : Instr → Bool
  | .aconst_null => true
  | .iconst _ => true
  | .bipush _ => true
  | .sipush _ => true
  | .lconst _ => true
  | .iload _ => true
  | .iload_n _ => true
  | .lload _ => true
  | .lload_n _ => true
  | .aload _ => true
  | .aload_n _ => true
  | .istore _ => true
  | .istore_n _ => true
  | .lstore _ => true
  | .lstore_n _ => true
  | .astore _ => true
  | .astore_n _ => true
  | .iinc _ _ => true
  | .iadd => true
  | .isub => true
  | .imul => true
  | .iand => true
  | .ior => true
  | .ishl => true
  | .ishr => true
  | .iushr => true
  | .ineg => true
  | .ladd => true
  | .lsub => true
  | .lmul => true
  | .land => true
  | .lor => true
  | .lneg => true
  | .idiv => true
  | .irem => true
  | .ldiv => true
  | .lrem => true
  | .i2l => true
  | .l2i => true
  | .i2b => true
  | .i2c => true
  | .lshl => true
  | .lshr => true
  | .lcmp => true
  | .dup => true
  | .pop => true
  | .dup_x1 => true
  | .dup_x2 => true
  | .dup2 => true
  | .goto _ => true
  | .ifCond _ _ => true
  | .if_icmp _ _ => true
  | .ifnull _ => true
  | .ifnonnull _ => true
  | .tableswitch _ _ _ _ => true
  | .lookupswitch _ _ => true
  | _ => false
section JXP
variable {p : Program} {l : Launch} {e : Env} {R : Room} {s : State} {m : MethodId} {args : Array Value} {below : List Frame} {meth : Method} {c : Code} {H : Heap} {locs : List Loc} {cells slots : Nat} {Q : State → Prop}
set_option maxHeartbeats 4000000 in
theorem jx_s_pure {cc : ByteArray} (hexec : p.tables.exec = Jvm.exec) (hb : c.code = cc) {G : jx_G} {T : jx_T} {cd : Nat → Option Instr} {nL own pc : Nat} {rt : Option FieldType × Bool} {i : Instr} {lo : jx_L} {st : List Value} {h : jx_H} {F : jx_F} {ls : Array Slot}
    (hdec : ∃ len, decode cc pc = .ok (i, len) ∧ (jx_isSwitch i = false → len = jx_len i)) (hl : jx_ls G nL ls lo) (hp : jx_pure i = true) (hdo : jx_do T cd own pc rt i lo st h = some (.inl F))
    (kk : F.2.2.2 = h → ∀ ls' : Array Slot, jx_ls G nL ls' F.2.1 → W p l e R s m args below meth c H locs cells slots Q (F0 m F.1 ls' (F.2.2.1.map (jx_v G))))   : F.2.2.2 = h ∧ W p l e R s m args below meth c H locs cells slots Q (F0 m pc ls (st.map (jx_v G))) := by
  cases i with
  | aconst_null =>
    obtain ⟨len, hd, hln⟩ := hdec
    obtain rfl := hln rfl
    cases hdo
    exact ⟨rfl, lv_null hexec hb hd (kk rfl ls hl)⟩
  | iconst n =>
    obtain ⟨len, hd, hln⟩ := hdec
    obtain rfl := hln rfl
    cases hdo
    exact ⟨rfl, lv_iconst hexec hb hd rfl (kk rfl ls hl)⟩
  | bipush n =>
    obtain ⟨len, hd, hln⟩ := hdec
    obtain rfl := hln rfl
    cases hdo
    exact ⟨rfl, lv_bipush hexec hb hd rfl (kk rfl ls hl)⟩
  | sipush n =>
    obtain ⟨len, hd, hln⟩ := hdec
    obtain rfl := hln rfl
    cases hdo
    exact ⟨rfl, lv_sipush hexec hb hd rfl (kk rfl ls hl)⟩
  | lconst n =>
    obtain ⟨len, hd, hln⟩ := hdec
    obtain rfl := hln rfl
    cases hdo
    exact ⟨rfl, lv_lconst hexec hb hd rfl (kk rfl ls hl)⟩
  | iload k =>
    obtain ⟨len, hd, hln⟩ := hdec
    obtain rfl := hln rfl
    simp only [jx_do, jx_ld] at hdo
    split at hdo
    · rename_i v hv
      split at hdo
      · rename_i hc
        cases hdo
        have hg := hl.2.2.2 _ _ hv
        cases v <;> first | (cases hc; done) | skip
        · exact ⟨rfl, lv_iload hexec hb hd hg (kk rfl ls hl)⟩
      · cases hdo
    · cases hdo
  | iload_n k =>
    obtain ⟨len, hd, hln⟩ := hdec
    obtain rfl := hln rfl
    simp only [jx_do, jx_ld] at hdo
    split at hdo
    · rename_i v hv
      split at hdo
      · rename_i hc
        cases hdo
        have hg := hl.2.2.2 _ _ hv
        cases v <;> first | (cases hc; done) | skip
        · exact ⟨rfl, lv_iload_n hexec hb hd rfl hg (kk rfl ls hl)⟩
      · cases hdo
    · cases hdo
  | lload k =>
    obtain ⟨len, hd, hln⟩ := hdec
    obtain rfl := hln rfl
    simp only [jx_do, jx_ld] at hdo
    split at hdo
    · rename_i v hv
      split at hdo
      · rename_i hc
        cases hdo
        have hg := hl.2.2.2 _ _ hv
        cases v <;> first | (cases hc; done) | skip
        · exact ⟨rfl, lv_lload hexec hb hd hg (kk rfl ls hl)⟩
      · cases hdo
    · cases hdo
  | lload_n k =>
    obtain ⟨len, hd, hln⟩ := hdec
    obtain rfl := hln rfl
    simp only [jx_do, jx_ld] at hdo
    split at hdo
    · rename_i v hv
      split at hdo
      · rename_i hc
        cases hdo
        have hg := hl.2.2.2 _ _ hv
        cases v <;> first | (cases hc; done) | skip
        · exact ⟨rfl, lv_lload_n hexec hb hd rfl hg (kk rfl ls hl)⟩
      · cases hdo
    · cases hdo
  | aload k =>
    obtain ⟨len, hd, hln⟩ := hdec
    obtain rfl := hln rfl
    simp only [jx_do, jx_ld] at hdo
    split at hdo
    · rename_i v hv
      split at hdo
      · rename_i hc
        cases hdo
        have hg := hl.2.2.2 _ _ hv
        cases v <;> first | (cases hc; done) | skip
        · exact ⟨rfl, lv_aloadN hexec hb hd hg (kk rfl ls hl)⟩
        · exact ⟨rfl, lv_aload hexec hb hd hg (kk rfl ls hl)⟩
      · cases hdo
    · cases hdo
  | aload_n k =>
    obtain ⟨len, hd, hln⟩ := hdec
    obtain rfl := hln rfl
    simp only [jx_do, jx_ld] at hdo
    split at hdo
    · rename_i v hv
      split at hdo
      · rename_i hc
        cases hdo
        have hg := hl.2.2.2 _ _ hv
        cases v <;> first | (cases hc; done) | skip
        · exact ⟨rfl, lv_aload_nN hexec hb hd rfl hg (kk rfl ls hl)⟩
        · exact ⟨rfl, lv_aload_n hexec hb hd rfl hg (kk rfl ls hl)⟩
      · cases hdo
    · cases hdo
  | istore k =>
    obtain ⟨len, hd, hln⟩ := hdec
    obtain rfl := hln rfl
    simp only [jx_do] at hdo
    split at hdo
    · rename_i x r
      split at hdo
      · rename_i hk
        cases hdo
        exact ⟨rfl, lv_istore hexec hb hd hl.has (by rw [← hl.1]; exact hk) rfl (fun ls' h' => kk rfl ls' (jx_ls.st1 (v := .int x) hl.1 hk h'))⟩
      · cases hdo
    · cases hdo
  | istore_n k =>
    obtain ⟨len, hd, hln⟩ := hdec
    obtain rfl := hln rfl
    simp only [jx_do] at hdo
    split at hdo
    · rename_i x r
      split at hdo
      · rename_i hk
        cases hdo
        exact ⟨rfl, lv_istore_n hexec hb hd rfl hl.has (by rw [← hl.1]; exact hk) rfl (fun ls' h' => kk rfl ls' (jx_ls.st1 (v := .int x) hl.1 hk h'))⟩
      · cases hdo
    · cases hdo
  | lstore k =>
    obtain ⟨len, hd, hln⟩ := hdec
    obtain rfl := hln rfl
    simp only [jx_do] at hdo
    split at hdo
    · rename_i x r
      split at hdo
      · rename_i hk
        cases hdo
        exact ⟨rfl, lv_lstore hexec hb hd hl.has (by rw [← hl.1]; exact hk) rfl (fun ls' h' => kk rfl ls' (jx_ls.st2 (v := .long x) hl.1 hk h'))⟩
      · cases hdo
    · cases hdo
  | lstore_n k =>
    obtain ⟨len, hd, hln⟩ := hdec
    obtain rfl := hln rfl
    simp only [jx_do] at hdo
    split at hdo
    · rename_i x r
      split at hdo
      · rename_i hk
        cases hdo
        exact ⟨rfl, lv_lstore_n hexec hb hd rfl hl.has (by rw [← hl.1]; exact hk) rfl (fun ls' h' => kk rfl ls' (jx_ls.st2 (v := .long x) hl.1 hk h'))⟩
      · cases hdo
    · cases hdo
  | astore k =>
    obtain ⟨len, hd, hln⟩ := hdec
    obtain rfl := hln rfl
    simp only [jx_do] at hdo
    split at hdo
    · rename_i v r
      split at hdo
      · rename_i hk
        obtain ⟨hc, hk2⟩ := (Bool.and_eq_true _ _).mp hk
        have hk3 := of_decide_eq_true hk2
        cases hdo
        cases v <;> first | (cases hc; done) | skip
        · exact ⟨rfl, lv_astoreN hexec hb hd hl.has (by rw [← hl.1]; exact hk3) rfl (fun ls' h' => kk rfl ls' (jx_ls.st1 (v := .null) hl.1 hk3 h'))⟩
        · exact ⟨rfl, lv_astore hexec hb hd hl.has (by rw [← hl.1]; exact hk3) rfl (fun ls' h' => kk rfl ls' (jx_ls.st1 (v := .ref _) hl.1 hk3 h'))⟩
      · cases hdo
    · cases hdo
  | astore_n k =>
    obtain ⟨len, hd, hln⟩ := hdec
    obtain rfl := hln rfl
    simp only [jx_do] at hdo
    split at hdo
    · rename_i v r
      split at hdo
      · rename_i hk
        obtain ⟨hc, hk2⟩ := (Bool.and_eq_true _ _).mp hk
        have hk3 := of_decide_eq_true hk2
        cases hdo
        cases v <;> first | (cases hc; done) | skip
        · exact ⟨rfl, lv_astore_nN hexec hb hd rfl hl.has (by rw [← hl.1]; exact hk3) rfl (fun ls' h' => kk rfl ls' (jx_ls.st1 (v := .null) hl.1 hk3 h'))⟩
        · exact ⟨rfl, lv_astore_n hexec hb hd rfl hl.has (by rw [← hl.1]; exact hk3) rfl (fun ls' h' => kk rfl ls' (jx_ls.st1 (v := .ref _) hl.1 hk3 h'))⟩
      · cases hdo
    · cases hdo
  | iinc k n =>
    obtain ⟨len, hd, hln⟩ := hdec
    obtain rfl := hln rfl
    simp only [jx_do] at hdo
    split at hdo
    · rename_i x hx
      cases hdo
      have hk := (List.getElem?_eq_some_iff.mp hx).1
      obtain ⟨q, hq⟩ := List.getElem?_of_mem (jx_pr_mem (G := G) (lo := lo) (q := (k, jx_v G (.int x))) |>.mpr ⟨_, hx, rfl⟩)
      exact ⟨rfl, lv_iinc hexec hb hd hl.has hq rfl (by rw [← hl.1]; exact hk) rfl (fun ls' h' => kk rfl ls' (jx_ls.st1 (v := .int (x + Int32.ofInt n)) hl.1 hk h'))⟩
    · cases hdo
  | iadd =>
    obtain ⟨len, hd, hln⟩ := hdec
    obtain rfl := hln rfl
    simp only [jx_do] at hdo
    split at hdo
    · cases hdo
      exact ⟨rfl, lv_iadd hexec hb hd (kk rfl ls hl)⟩
    · cases hdo
  | isub =>
    obtain ⟨len, hd, hln⟩ := hdec
    obtain rfl := hln rfl
    simp only [jx_do] at hdo
    split at hdo
    · cases hdo
      exact ⟨rfl, lv_isub hexec hb hd (kk rfl ls hl)⟩
    · cases hdo
  | imul =>
    obtain ⟨len, hd, hln⟩ := hdec
    obtain rfl := hln rfl
    simp only [jx_do] at hdo
    split at hdo
    · cases hdo
      exact ⟨rfl, lv_imul hexec hb hd (kk rfl ls hl)⟩
    · cases hdo
  | iand =>
    obtain ⟨len, hd, hln⟩ := hdec
    obtain rfl := hln rfl
    simp only [jx_do] at hdo
    split at hdo
    · cases hdo
      exact ⟨rfl, lv_iand hexec hb hd (kk rfl ls hl)⟩
    · cases hdo
  | ior =>
    obtain ⟨len, hd, hln⟩ := hdec
    obtain rfl := hln rfl
    simp only [jx_do] at hdo
    split at hdo
    · cases hdo
      exact ⟨rfl, lv_ior hexec hb hd (kk rfl ls hl)⟩
    · cases hdo
  | ishl =>
    obtain ⟨len, hd, hln⟩ := hdec
    obtain rfl := hln rfl
    simp only [jx_do] at hdo
    split at hdo
    · cases hdo
      exact ⟨rfl, lv_ishl hexec hb hd (kk rfl ls hl)⟩
    · cases hdo
  | ishr =>
    obtain ⟨len, hd, hln⟩ := hdec
    obtain rfl := hln rfl
    simp only [jx_do] at hdo
    split at hdo
    · cases hdo
      exact ⟨rfl, lv_ishr hexec hb hd (kk rfl ls hl)⟩
    · cases hdo
  | iushr =>
    obtain ⟨len, hd, hln⟩ := hdec
    obtain rfl := hln rfl
    simp only [jx_do] at hdo
    split at hdo
    · cases hdo
      exact ⟨rfl, lv_iushr hexec hb hd rfl (kk rfl ls hl)⟩
    · cases hdo
  | ineg =>
    obtain ⟨len, hd, hln⟩ := hdec
    obtain rfl := hln rfl
    simp only [jx_do] at hdo
    split at hdo
    · cases hdo
      exact ⟨rfl, lv_ineg hexec hb hd (kk rfl ls hl)⟩
    · cases hdo
  | ladd =>
    obtain ⟨len, hd, hln⟩ := hdec
    obtain rfl := hln rfl
    simp only [jx_do] at hdo
    split at hdo
    · cases hdo
      exact ⟨rfl, lv_ladd hexec hb hd (kk rfl ls hl)⟩
    · cases hdo
  | lsub =>
    obtain ⟨len, hd, hln⟩ := hdec
    obtain rfl := hln rfl
    simp only [jx_do] at hdo
    split at hdo
    · cases hdo
      exact ⟨rfl, lv_lsub hexec hb hd (kk rfl ls hl)⟩
    · cases hdo
  | lmul =>
    obtain ⟨len, hd, hln⟩ := hdec
    obtain rfl := hln rfl
    simp only [jx_do] at hdo
    split at hdo
    · cases hdo
      exact ⟨rfl, lv_lmul hexec hb hd (kk rfl ls hl)⟩
    · cases hdo
  | land =>
    obtain ⟨len, hd, hln⟩ := hdec
    obtain rfl := hln rfl
    simp only [jx_do] at hdo
    split at hdo
    · cases hdo
      exact ⟨rfl, lv_land hexec hb hd (kk rfl ls hl)⟩
    · cases hdo
  | lor =>
    obtain ⟨len, hd, hln⟩ := hdec
    obtain rfl := hln rfl
    simp only [jx_do] at hdo
    split at hdo
    · cases hdo
      exact ⟨rfl, lv_lor hexec hb hd (kk rfl ls hl)⟩
    · cases hdo
  | lneg =>
    obtain ⟨len, hd, hln⟩ := hdec
    obtain rfl := hln rfl
    simp only [jx_do] at hdo
    split at hdo
    · cases hdo
      exact ⟨rfl, lv_lneg hexec hb hd (kk rfl ls hl)⟩
    · cases hdo
  | idiv =>
    obtain ⟨len, hd, hln⟩ := hdec
    obtain rfl := hln rfl
    simp only [jx_do] at hdo
    split at hdo
    · split at hdo
      · cases hdo
      · rename_i hne
        cases hdo
        exact ⟨rfl, lv_idiv hexec hb hd hne (kk rfl ls hl)⟩
    · cases hdo
  | irem =>
    obtain ⟨len, hd, hln⟩ := hdec
    obtain rfl := hln rfl
    simp only [jx_do] at hdo
    split at hdo
    · split at hdo
      · cases hdo
      · rename_i hne
        cases hdo
        exact ⟨rfl, lv_irem hexec hb hd hne (kk rfl ls hl)⟩
    · cases hdo
  | ldiv =>
    obtain ⟨len, hd, hln⟩ := hdec
    obtain rfl := hln rfl
    simp only [jx_do] at hdo
    split at hdo
    · split at hdo
      · cases hdo
      · rename_i hne
        cases hdo
        exact ⟨rfl, lv_ldiv hexec hb hd hne (kk rfl ls hl)⟩
    · cases hdo
  | lrem =>
    obtain ⟨len, hd, hln⟩ := hdec
    obtain rfl := hln rfl
    simp only [jx_do] at hdo
    split at hdo
    · split at hdo
      · cases hdo
      · rename_i hne
        cases hdo
        exact ⟨rfl, lv_lrem hexec hb hd hne (kk rfl ls hl)⟩
    · cases hdo
  | i2l =>
    obtain ⟨len, hd, hln⟩ := hdec
    obtain rfl := hln rfl
    simp only [jx_do] at hdo
    split at hdo
    · cases hdo
      exact ⟨rfl, lv_i2l hexec hb hd rfl (kk rfl ls hl)⟩
    · cases hdo
  | l2i =>
    obtain ⟨len, hd, hln⟩ := hdec
    obtain rfl := hln rfl
    simp only [jx_do] at hdo
    split at hdo
    · cases hdo
      exact ⟨rfl, lv_l2i hexec hb hd rfl (kk rfl ls hl)⟩
    · cases hdo
  | i2b =>
    obtain ⟨len, hd, hln⟩ := hdec
    obtain rfl := hln rfl
    simp only [jx_do] at hdo
    split at hdo
    · cases hdo
      exact ⟨rfl, lv_i2b hexec hb hd rfl (kk rfl ls hl)⟩
    · cases hdo
  | i2c =>
    obtain ⟨len, hd, hln⟩ := hdec
    obtain rfl := hln rfl
    simp only [jx_do] at hdo
    split at hdo
    · cases hdo
      exact ⟨rfl, lv_i2c hexec hb hd rfl (kk rfl ls hl)⟩
    · cases hdo
  | lshl =>
    obtain ⟨len, hd, hln⟩ := hdec
    obtain rfl := hln rfl
    simp only [jx_do] at hdo
    split at hdo
    · cases hdo
      exact ⟨rfl, lv_lshl hexec hb hd rfl (kk rfl ls hl)⟩
    · cases hdo
  | lshr =>
    obtain ⟨len, hd, hln⟩ := hdec
    obtain rfl := hln rfl
    simp only [jx_do] at hdo
    split at hdo
    · cases hdo
      exact ⟨rfl, lv_lshr hexec hb hd rfl (kk rfl ls hl)⟩
    · cases hdo
  | lcmp =>
    obtain ⟨len, hd, hln⟩ := hdec
    obtain rfl := hln rfl
    simp only [jx_do] at hdo
    split at hdo
    · cases hdo
      exact ⟨rfl, W.lcmp hexec hb hd (kk rfl ls hl)⟩
    · cases hdo
  | dup =>
    obtain ⟨len, hd, hln⟩ := hdec
    obtain rfl := hln rfl
    simp only [jx_do] at hdo
    split at hdo
    · split at hdo
      · rename_i hc
        cases hdo
        exact ⟨rfl, lv_dup hexec hb hd (by rw [jx_v_cat]; exact hc) (kk rfl ls hl)⟩
      · cases hdo
    · cases hdo
  | pop =>
    obtain ⟨len, hd, hln⟩ := hdec
    obtain rfl := hln rfl
    simp only [jx_do] at hdo
    split at hdo
    · split at hdo
      · rename_i hc
        cases hdo
        exact ⟨rfl, lv_pop hexec hb hd (by rw [jx_v_cat]; exact hc) (kk rfl ls hl)⟩
      · cases hdo
    · cases hdo
  | dup_x1 =>
    obtain ⟨len, hd, hln⟩ := hdec
    obtain rfl := hln rfl
    simp only [jx_do] at hdo
    split at hdo
    · split at hdo
      · rename_i hc
        cases hdo
        exact ⟨rfl, lv_dup_x1 hexec hb hd (by rw [jx_v_cat]; exact hc.1) (by rw [jx_v_cat]; exact hc.2) (kk rfl ls hl)⟩
      · cases hdo
    · cases hdo
  | dup_x2 =>
    obtain ⟨len, hd, hln⟩ := hdec
    obtain rfl := hln rfl
    simp only [jx_do] at hdo
    split at hdo
    · split at hdo
      · rename_i hc
        cases hdo
        exact ⟨rfl, lv_dup_x2 hexec hb hd (by rw [jx_v_cat]; exact hc.1) (by rw [jx_v_cat]; exact hc.2.1) (by rw [jx_v_cat]; exact hc.2.2) (kk rfl ls hl)⟩
      · cases hdo
    · cases hdo
  | dup2 =>
    obtain ⟨len, hd, hln⟩ := hdec
    obtain rfl := hln rfl
    simp only [jx_do] at hdo
    split at hdo
    · split at hdo
      · rename_i hc
        cases hdo
        exact ⟨rfl, lv_dup2_11 hexec hb hd (by rw [jx_v_cat]; exact hc.1) (by rw [jx_v_cat]; exact hc.2) (kk rfl ls hl)⟩
      · cases hdo
    · cases hdo
  | goto off =>
    obtain ⟨len, hd, hln⟩ := hdec
    obtain rfl := hln rfl
    simp only [jx_do] at hdo
    obtain ⟨t, ht, rfl⟩ := jx_go_some hdo
    exact ⟨rfl, lv_goto hexec hb hd ht (kk rfl ls hl)⟩
  | ifCond cd2 off =>
    obtain ⟨len, hd, hln⟩ := hdec
    obtain rfl := hln rfl
    simp only [jx_do] at hdo
    split at hdo
    · rename_i x r
      obtain ⟨t, ht, hdo⟩ := jx_br_some hdo
      cases cd2
      · rcases hdo with ⟨hc, rfl⟩ | ⟨hc, rfl⟩
        · exact ⟨rfl, lv_if_eq hexec hb hd ht (fun _ => kk rfl ls hl) (fun q => absurd (by simpa [jx_hold] using hc) q)⟩
        · exact ⟨rfl, lv_if_eq hexec hb hd ht (fun q => absurd q (by simpa [jx_hold] using hc)) (fun _ => kk rfl ls hl)⟩
      · rcases hdo with ⟨hc, rfl⟩ | ⟨hc, rfl⟩
        · exact ⟨rfl, lv_if_ne hexec hb hd ht (fun _ => kk rfl ls hl) (fun q => absurd q (by simpa [jx_hold] using hc))⟩
        · exact ⟨rfl, lv_if_ne hexec hb hd ht (fun q => absurd q (by simpa [jx_hold] using hc)) (fun _ => kk rfl ls hl)⟩
      · rcases hdo with ⟨hc, rfl⟩ | ⟨hc, rfl⟩
        · exact ⟨rfl, lv_if_lt hexec hb hd ht (fun _ => kk rfl ls hl) (fun q => absurd (by simpa [jx_hold] using hc) q)⟩
        · exact ⟨rfl, lv_if_lt hexec hb hd ht (fun q => absurd q (by simpa [jx_hold] using hc)) (fun _ => kk rfl ls hl)⟩
      · rcases hdo with ⟨hc, rfl⟩ | ⟨hc, rfl⟩
        · exact ⟨rfl, lv_if_ge hexec hb hd ht (fun _ => kk rfl ls hl) (fun q => absurd (by simpa [jx_hold] using hc) q)⟩
        · exact ⟨rfl, lv_if_ge hexec hb hd ht (fun q => absurd q (by simpa [jx_hold] using hc)) (fun _ => kk rfl ls hl)⟩
      · rcases hdo with ⟨hc, rfl⟩ | ⟨hc, rfl⟩
        · exact ⟨rfl, lv_if_gt hexec hb hd ht (fun _ => kk rfl ls hl) (fun q => absurd (by simpa [jx_hold] using hc) q)⟩
        · exact ⟨rfl, lv_if_gt hexec hb hd ht (fun q => absurd q (by simpa [jx_hold] using hc)) (fun _ => kk rfl ls hl)⟩
      · rcases hdo with ⟨hc, rfl⟩ | ⟨hc, rfl⟩
        · exact ⟨rfl, lv_if_le hexec hb hd ht (fun _ => kk rfl ls hl) (fun q => absurd (by simpa [jx_hold] using hc) q)⟩
        · exact ⟨rfl, lv_if_le hexec hb hd ht (fun q => absurd q (by simpa [jx_hold] using hc)) (fun _ => kk rfl ls hl)⟩
    · cases hdo
  | if_icmp cd2 off =>
    obtain ⟨len, hd, hln⟩ := hdec
    obtain rfl := hln rfl
    simp only [jx_do] at hdo
    split at hdo
    · rename_i y x r
      obtain ⟨t, ht, hdo⟩ := jx_br_some hdo
      cases cd2
      · rcases hdo with ⟨hc, rfl⟩ | ⟨hc, rfl⟩
        · exact ⟨rfl, lv_icmp_eq hexec hb hd ht (fun _ => kk rfl ls hl) (fun q => absurd (by simpa [jx_hold] using hc) q)⟩
        · exact ⟨rfl, lv_icmp_eq hexec hb hd ht (fun q => absurd q (by simpa [jx_hold] using hc)) (fun _ => kk rfl ls hl)⟩
      · rcases hdo with ⟨hc, rfl⟩ | ⟨hc, rfl⟩
        · exact ⟨rfl, lv_icmp_ne hexec hb hd ht (fun _ => kk rfl ls hl) (fun q => absurd q (by simpa [jx_hold] using hc))⟩
        · exact ⟨rfl, lv_icmp_ne hexec hb hd ht (fun q => absurd q (by simpa [jx_hold] using hc)) (fun _ => kk rfl ls hl)⟩
      · rcases hdo with ⟨hc, rfl⟩ | ⟨hc, rfl⟩
        · exact ⟨rfl, lv_icmp_lt hexec hb hd ht (fun _ => kk rfl ls hl) (fun q => absurd (by simpa [jx_hold] using hc) q)⟩
        · exact ⟨rfl, lv_icmp_lt hexec hb hd ht (fun q => absurd q (by simpa [jx_hold] using hc)) (fun _ => kk rfl ls hl)⟩
      · rcases hdo with ⟨hc, rfl⟩ | ⟨hc, rfl⟩
        · exact ⟨rfl, lv_icmp_ge hexec hb hd ht (fun _ => kk rfl ls hl) (fun q => absurd (by simpa [jx_hold] using hc) q)⟩
        · exact ⟨rfl, lv_icmp_ge hexec hb hd ht (fun q => absurd q (by simpa [jx_hold] using hc)) (fun _ => kk rfl ls hl)⟩
      · rcases hdo with ⟨hc, rfl⟩ | ⟨hc, rfl⟩
        · exact ⟨rfl, lv_icmp_gt hexec hb hd ht (fun _ => kk rfl ls hl) (fun q => absurd (by simpa [jx_hold] using hc) q)⟩
        · exact ⟨rfl, lv_icmp_gt hexec hb hd ht (fun q => absurd q (by simpa [jx_hold] using hc)) (fun _ => kk rfl ls hl)⟩
      · rcases hdo with ⟨hc, rfl⟩ | ⟨hc, rfl⟩
        · exact ⟨rfl, lv_icmp_le hexec hb hd ht (fun _ => kk rfl ls hl) (fun q => absurd (by simpa [jx_hold] using hc) q)⟩
        · exact ⟨rfl, lv_icmp_le hexec hb hd ht (fun q => absurd q (by simpa [jx_hold] using hc)) (fun _ => kk rfl ls hl)⟩
    · cases hdo
  | ifnull off =>
    obtain ⟨len, hd, hln⟩ := hdec
    obtain rfl := hln rfl
    simp only [jx_do] at hdo
    split at hdo
    · obtain ⟨t, ht, hdo⟩ := jx_br_some hdo
      rcases hdo with ⟨hc, rfl⟩ | ⟨hc, rfl⟩
      · exact ⟨rfl, lv_ifnullN hexec hb hd ht (kk rfl ls hl)⟩
      · cases hc
    · obtain ⟨t, ht, hdo⟩ := jx_br_some hdo
      rcases hdo with ⟨hc, rfl⟩ | ⟨hc, rfl⟩
      · cases hc
      · exact ⟨rfl, lv_ifnull hexec hb hd (kk rfl ls hl)⟩
    · cases hdo
  | ifnonnull off =>
    obtain ⟨len, hd, hln⟩ := hdec
    obtain rfl := hln rfl
    simp only [jx_do] at hdo
    split at hdo
    · obtain ⟨t, ht, hdo⟩ := jx_br_some hdo
      rcases hdo with ⟨hc, rfl⟩ | ⟨hc, rfl⟩
      · cases hc
      · exact ⟨rfl, lv_ifnonnullN hexec hb hd (kk rfl ls hl)⟩
    · obtain ⟨t, ht, hdo⟩ := jx_br_some hdo
      rcases hdo with ⟨hc, rfl⟩ | ⟨hc, rfl⟩
      · exact ⟨rfl, lv_ifnonnull hexec hb hd ht (kk rfl ls hl)⟩
      · cases hc
    · cases hdo
  | tableswitch dd lw hi offs =>
    obtain ⟨len, hd, hln⟩ := hdec
    simp only [jx_do] at hdo
    split at hdo
    · rename_i x r
      split at hdo
      · rename_i hc
        obtain ⟨t, ht, rfl⟩ := jx_go_some hdo
        exact ⟨rfl, lv_tableOut hexec hb hd hc ht (kk rfl ls hl)⟩
      · rename_i hc
        split at hdo
        · rename_i off ho
          obtain ⟨t, ht, rfl⟩ := jx_go_some hdo
          exact ⟨rfl, lv_tableIn hexec hb hd (fun q => hc (Or.inl q)) (fun q => hc (Or.inr q)) ho ht (kk rfl ls hl)⟩
        · cases hdo
    · cases hdo
  | lookupswitch dd ps =>
    obtain ⟨len, hd, hln⟩ := hdec
    simp only [jx_do] at hdo
    split at hdo
    · rename_i x r
      split at hdo
      · rename_i hc
        obtain ⟨t, ht, rfl⟩ := jx_go_some hdo
        exact ⟨rfl, lv_lookup hexec hb hd hc rfl ht (kk rfl ls hl)⟩
      · cases hdo
    · cases hdo
  | _ => cases hp
end JXP
