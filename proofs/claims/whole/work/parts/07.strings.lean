/-! the text constants: what the JDK's own length() and charAt() answer of them -/
def sLen (i : Nat) : Int32 := (Int32.ofNat (xLen.getD i 0)) >>> ((0 : Int32) &&& 31)
def sCh (i : Nat) (k : Int32) : Int32 := ((((xByt.getD i []).getD k.toNatClampNeg 0) &&& (255 : Int32)).toUInt32 % 65536).toInt32
section XS
variable {G : xG} {own : String} {cc : ByteArray} {nL : Nat} {nm : String} {ret : Option FieldType} {R : Room} {Z : xZ} {kc ks pc : Nat} {L : List (Nat × Value)} {st : List Value} {h : xH} {i idx : Nat}
theorem x_getsZ (hd : decode cc pc = .ok (.getstatic idx, 3)) (hlk : Cond.fieldLink own idx "java/lang/String" "COMPACT_STRINGS" "Z" ∈ xW) (kk : Wp G own cc nL nm ret R Z kc ks (pc + 3) L (.int 1 :: st) h) : Wp G own cc nL nm ret R Z kc ks pc L st h := by
  intro p e s m args below meth c H locs ls C hH hS hl
  exact va_gets C.1 C.2.1 C.E.2.2.2.2.2.2.1 hS C.2.2.2.1 (C.w _ hlk) (fun _ h9 => h9) hd (kk p e s m args below meth c H locs ls C hH hS hl)
theorem x_getsF (hd : decode cc pc = .ok (.getstatic idx, 3)) (hlk : Cond.fieldLink own idx "jdk/internal/util/Preconditions" "SIOOBE_FORMATTER" "Ljava/util/function/BiFunction;" ∈ xW) (k1 : Wp G own cc nL nm ret R Z kc ks (pc + 3) L (.null :: st) h) (k2 : ∀ t : Nat, Wp G own cc nL nm ret R Z kc ks (pc + 3) L (.ref t :: st) h) : Wp G own cc nL nm ret R Z kc ks pc L st h := by
  intro p e s m args below meth c H locs ls C hH hS hl
  rcases C.E.2.2.2.2.2.2.2.1 with hZ | ⟨t, hZ⟩
  · exact va_gets C.1 C.2.1 hZ hS C.2.2.2.1 (C.w _ hlk) (fun _ h9 => h9) hd (k1 p e s m args below meth c H locs ls C hH hS hl)
  · exact va_gets C.1 C.2.1 hZ hS C.2.2.2.1 (C.w _ hlk) (fun _ h9 => h9) hd (k2 t p e s m args below meth c H locs ls C hH hS hl)
theorem x_sgetv (hd : decode cc pc = .ok (.getfield idx, 3)) (hlk : Cond.fieldLink own idx "java/lang/String" "value" "[B" ∈ xW) (hi : i < 18) (kk : Wp G own cc nL nm ret R Z kc ks (pc + 3) L (.ref (xg_sV G i) :: st) h) : Wp G own cc nL nm ret R Z kc ks pc L (.ref (xg_sK G i) :: st) h := by
  intro p e s m args below meth c H locs ls C hH hS hl
  exact vk_getf C.1 C.2.1 (C.E.2.2.2.2.2.1.1 i hi).2.2.1 hS C.2.2.2.1 (C.w _ hlk) (fun _ h9 => h9) hd (kk p e s m args below meth c H locs ls C hH hS hl)
theorem x_sgetc (hd : decode cc pc = .ok (.getfield idx, 3)) (hlk : Cond.fieldLink own idx "java/lang/String" "coder" "B" ∈ xW) (hi : i < 18) (kk : Wp G own cc nL nm ret R Z kc ks (pc + 3) L (.int 0 :: st) h) : Wp G own cc nL nm ret R Z kc ks pc L (.ref (xg_sK G i) :: st) h := by
  intro p e s m args below meth c H locs ls C hH hS hl
  exact vk_getf C.1 C.2.1 (C.E.2.2.2.2.2.1.1 i hi).2.1 hS C.2.2.2.1 (C.w _ hlk) (fun _ h9 => h9) hd (kk p e s m args below meth c H locs ls C hH hS hl)
theorem x_slenS (hd : decode cc pc = .ok (.arraylength, 1)) (hi : i < 18) (kk : Wp G own cc nL nm ret R Z kc ks (pc + 1) L (.int (Int32.ofNat (xLen.getD i 0)) :: st) h) : Wp G own cc nL nm ret R Z kc ks pc L (.ref (xg_sV G i) :: st) h := by
  intro p e s m args below meth c H locs ls C hH hS hl
  exact va_tlen C.1 C.2.1 (C.E.2.2.2.2.2.1.1 i hi).2.2.2 hS rfl hd (kk p e s m args below meth c H locs ls C hH hS hl)
theorem x_sbald {k : Int32} (hd : decode cc pc = .ok (.baload, 1)) (hi : i < 18) (hk : vp_in k (xLen.getD i 0)) (kk : Wp G own cc nL nm ret R Z kc ks (pc + 1) L (.int ((xByt.getD i []).getD k.toNatClampNeg 0) :: st) h) : Wp G own cc nL nm ret R Z kc ks pc L (.int k :: .ref (xg_sV G i) :: st) h := by
  intro p e s m args below meth c H locs ls C hH hS hl
  exact va_tb C.1 C.2.1 (C.E.2.2.2.2.2.1.1 i hi).2.2.2 hS hk rfl hd (kk p e s m args below meth c H locs ls C hH hS hl)
/-- a call of a text constant's own method -/
theorem x_callT {d n nL' : Nat} {y : MethodName} {cc' : ByteArray} {ret' : Option FieldType} {As rest : List Value} {Q : Option Value → xH → Prop} (hd : decode cc pc = .ok (.invokevirtual idx, 3)) (hlk : Cond.methodLink own idx y ∈ xW) (hy : xMv y cc' nL' ret' n) (hi : i < 18) (hci : y.cls = "java/lang/String") (hlen : As.length = n) (hR : (Nat.ble (d + 1) R.frames && Nat.ble (8 + (nL' + 11) + 39 * d) R.locals) = true) (hcs : (Nat.ble kc R.cells && Nat.ble ks R.slots) = true) (hsm : Nat.ble (rest.map fun v => v.category).sum 8 = true) (hst : st = As.reverse ++ .ref (xg_sK G i) :: rest) (hct : Ct G d 0 0 y cc' nL' ret' (.ref (xg_sK G i) :: As) h Q) (kk : ∀ v h1, Q v h1 → Wp G own cc nL nm ret R Z kc ks (pc + 3) L (v.toList ++ rest) h1) : Wp G own cc nL nm ret R Z kc ks pc L st h := by
  intro p e s m args below meth c H locs ls C hH hS hl
  rw [Bool.and_eq_true] at hcs
  refine xAfter (mc := 0) (ms := 0) (va_runV (As := As) (rest := rest) ⟨C.1, C.2.1, C.2.2.1, C.2.2.2.1, C.w⟩ hct ⟨xCallB C hy.1 hlk hR, C.w _ hy.2.1, C.w _ hy.2.2⟩ ⟨xPc_blind G _ h, by rw [hci]; exact vk_recv C.E.2.2.2.2.2.1 hi hS, xPc_at C hH hS _⟩ rfl hlen hl.1 hst (lv_room (Nat.le_of_ble_eq_true hsm)) hd ⟨Nat.le_of_ble_eq_true hcs.1, Nat.le_of_ble_eq_true hcs.2⟩) hS (fun v h1 H1 locs1 hq hH1 hS1 => ?_)
  exact kk v h1 hq p e s m args below meth c H1 locs1 ls C hH1 hS1 hl
end XS
set_option maxRecDepth 100000 in
theorem C_coder (G : xG) (h : xH) (i : Nat) (hi : i < 18) : Cd G 0 yJ0_coder_7d493 cJ0_coder_7d493 1 (some .byte) [.ref (xg_sK G i)] h (some (.int 0)) h := by
  refine Ct.of (by decide) (by rfl) ?_
  refine Wp.eqs (L' := [(0, .ref (xg_sK G i))]) (st' := []) rfl rfl ?_
  refine x_getsZ (pc := 0) dJ0_coder_7d493_0 xg_J0_38 ?_
  refine x_if_eq (pc := 3) (tgt := 13) dJ0_coder_7d493_3 (by decide) (fun z => absurd z (by decide)) (fun _ => ?_)
  refine x_aload_n (pc := 6) dJ0_coder_7d493_6 rfl ?_
  refine x_sgetc (pc := 7) dJ0_coder_7d493_7 xg_J0_15 hi ?_
  refine x_goto (pc := 10) (tgt := 14) dJ0_coder_7d493_10 (by decide) ?_
  exact x_iret (pc := 14) dJ0_coder_7d493_14 rfl rfl rfl rfl ⟨rfl, rfl⟩
set_option maxRecDepth 100000 in
theorem C_isLatin1 (G : xG) (h : xH) (i : Nat) (hi : i < 18) : Cd G 0 yJ0_isLatin1_aae02 cJ0_isLatin1_aae02 1 (some .boolean) [.ref (xg_sK G i)] h (some (.int 1)) h := by
  refine Ct.of (by decide) (by rfl) ?_
  refine Wp.eqs (L' := [(0, .ref (xg_sK G i))]) (st' := []) rfl rfl ?_
  refine x_getsZ (pc := 0) dJ0_isLatin1_aae02_0 xg_J0_38 ?_
  refine x_if_eq (pc := 3) (tgt := 17) dJ0_isLatin1_aae02_3 (by decide) (fun z => absurd z (by decide)) (fun _ => ?_)
  refine x_aload_n (pc := 6) dJ0_isLatin1_aae02_6 rfl ?_
  refine x_sgetc (pc := 7) dJ0_isLatin1_aae02_7 xg_J0_15 hi ?_
  refine x_if_ne (pc := 10) (tgt := 17) dJ0_isLatin1_aae02_10 (by decide) (fun z => absurd rfl z) (fun _ => ?_)
  refine x_iconst (pc := 13) (v := 1) dJ0_isLatin1_aae02_13 (by decide) ?_
  refine x_goto (pc := 14) (tgt := 18) dJ0_isLatin1_aae02_14 (by decide) ?_
  exact x_iret (pc := 18) dJ0_isLatin1_aae02_18 rfl rfl rfl rfl ⟨rfl, rfl⟩
set_option maxRecDepth 100000 in
theorem C_length (G : xG) (h : xH) (i : Nat) (hi : i < 18) : Cd G 1 yJ0_length_8abf5 cJ0_length_8abf5 1 (some .int) [.ref (xg_sK G i)] h (some (.int (sLen i))) h := by
  refine Ct.of (by decide) (by rfl) ?_
  refine Wp.eqs (L' := [(0, .ref (xg_sK G i))]) (st' := []) rfl rfl ?_
  refine x_aload_n (pc := 0) dJ0_length_8abf5_0 rfl ?_
  refine x_sgetv (pc := 1) dJ0_length_8abf5_1 xg_J0_9 hi ?_
  refine x_slenS (pc := 4) dJ0_length_8abf5_4 hi ?_
  refine x_aload_n (pc := 5) dJ0_length_8abf5_5 rfl ?_
  refine x_callT (pc := 6) (As := []) (rest := [.int (Int32.ofNat (xLen.getD i 0))]) dJ0_length_8abf5_6 xl_J0_335 xv_J0_coder_7d493 hi rfl rfl rfl rfl rfl rfl (C_coder G h i hi) (fun v h2 hq => ?_)
  obtain ⟨e1, e2⟩ := hq
  subst e1; subst e2
  refine x_ishr (pc := 9) dJ0_length_8abf5_9 ?_
  exact x_iret (pc := 10) dJ0_length_8abf5_10 rfl rfl rfl rfl ⟨rfl, rfl⟩
set_option maxRecDepth 100000 in
theorem C_pcheck0 (G : xG) (h : xH) (k n : Int32) (h1 : ¬ k < 0) (h2 : k < n) : Cd G 0 yJ3_checkIndex_8e157 cJ3_checkIndex_8e157 3 (some .int) [.int k, .int n, .null] h (some (.int k)) h := by
  refine Ct.of (by decide) (by rfl) ?_
  refine Wp.eqs (L' := [(0, .int k), (1, .int n), (2, .null)]) (st' := []) rfl rfl ?_
  refine x_iload_n (pc := 0) dJ3_checkIndex_8e157_0 rfl ?_
  refine x_if_lt (pc := 1) (tgt := 9) dJ3_checkIndex_8e157_1 (by decide) (fun z => absurd z h1) (fun _ => ?_)
  refine x_iload_n (pc := 4) dJ3_checkIndex_8e157_4 rfl ?_
  refine x_iload_n (pc := 5) dJ3_checkIndex_8e157_5 rfl ?_
  refine x_icmp_lt (pc := 6) (tgt := 16) dJ3_checkIndex_8e157_6 (by decide) (fun _ => ?_) (fun z => absurd h2 z)
  refine x_iload_n (pc := 16) dJ3_checkIndex_8e157_16 rfl ?_
  exact x_iret (pc := 17) dJ3_checkIndex_8e157_17 rfl rfl rfl rfl ⟨rfl, rfl⟩
set_option maxRecDepth 100000 in
theorem C_pcheck1 (G : xG) (h : xH) (t : Nat) (k n : Int32) (h1 : ¬ k < 0) (h2 : k < n) : Cd G 0 yJ3_checkIndex_8e157 cJ3_checkIndex_8e157 3 (some .int) [.int k, .int n, .ref t] h (some (.int k)) h := by
  refine Ct.of (by decide) (by rfl) ?_
  refine Wp.eqs (L' := [(0, .int k), (1, .int n), (2, .ref t)]) (st' := []) rfl rfl ?_
  refine x_iload_n (pc := 0) dJ3_checkIndex_8e157_0 rfl ?_
  refine x_if_lt (pc := 1) (tgt := 9) dJ3_checkIndex_8e157_1 (by decide) (fun z => absurd z h1) (fun _ => ?_)
  refine x_iload_n (pc := 4) dJ3_checkIndex_8e157_4 rfl ?_
  refine x_iload_n (pc := 5) dJ3_checkIndex_8e157_5 rfl ?_
  refine x_icmp_lt (pc := 6) (tgt := 16) dJ3_checkIndex_8e157_6 (by decide) (fun _ => ?_) (fun z => absurd h2 z)
  refine x_iload_n (pc := 16) dJ3_checkIndex_8e157_16 rfl ?_
  exact x_iret (pc := 17) dJ3_checkIndex_8e157_17 rfl rfl rfl rfl ⟨rfl, rfl⟩
set_option maxRecDepth 100000 in
theorem C_scheck (G : xG) (h : xH) (k n : Int32) (h1 : ¬ k < 0) (h2 : k < n) : Cd G 1 yJ0_checkIndex_df160 cJ0_checkIndex_df160 2 none [.int k, .int n] h none h := by
  refine Ct.of (by decide) (by rfl) ?_
  refine Wp.eqs (L' := [(0, .int k), (1, .int n)]) (st' := []) rfl rfl ?_
  refine x_iload_n (pc := 0) dJ0_checkIndex_df160_0 rfl ?_
  refine x_iload_n (pc := 1) dJ0_checkIndex_df160_1 rfl ?_
  refine x_getsF (pc := 2) dJ0_checkIndex_df160_2 xg_J0_1053 ?_ (fun t => ?_)
  · refine x_cS3i (pc := 5) dJ0_checkIndex_df160_5 xl_J0_1059 xs_J3_checkIndex_8e157 (C_pcheck0 G h k n h1 h2) rfl rfl rfl ?_
    refine x_pop (pc := 8) dJ0_checkIndex_df160_8 rfl ?_
    exact x_vret (pc := 9) dJ0_checkIndex_df160_9 rfl rfl rfl ⟨rfl, rfl⟩
  · refine x_cS3i (pc := 5) dJ0_checkIndex_df160_5 xl_J0_1059 xs_J3_checkIndex_8e157 (C_pcheck1 G h t k n h1 h2) rfl rfl rfl ?_
    refine x_pop (pc := 8) dJ0_checkIndex_df160_8 rfl ?_
    exact x_vret (pc := 9) dJ0_checkIndex_df160_9 rfl rfl rfl ⟨rfl, rfl⟩
theorem sLen_lt : ∀ i : Nat, i < 18 → xLen.getD i 0 < 1000 := by decide +kernel
theorem vp_lt {k : Int32} {n : Nat} (hk : vp_in k n) : k.toNatClampNeg < n := Nat.not_le.mp fun q => hk (Or.inr q)
theorem vp_ge {k : Int32} {n : Nat} (hk : vp_in k n) : ¬ k < 0 := fun q => hk (Or.inl q)
theorem vp_ltI {k : Int32} {n : Nat} (hk : vp_in k n) (hn : n < 2 ^ 31) : k < Int32.ofNat n := by
  obtain ⟨j, hj, e⟩ := vp_in_of hk hn
  rw [e]
  exact nI_lt hj hn
set_option maxRecDepth 100000 in
theorem C_lcharAt (G : xG) (h : xH) (i : Nat) (k : Int32) (hi : i < 18) (hk : vp_in k (xLen.getD i 0)) : Cd G 2 yJ1_charAt_3b067 cJ1_charAt_3b067 2 (some .char) [.ref (xg_sV G i), .int k] h (some (.int (sCh i k))) h := by
  have hl := sLen_lt i hi
  refine Ct.of (by decide) (by rfl) ?_
  refine Wp.eqs (L' := [(0, .ref (xg_sV G i)), (1, .int k)]) (st' := []) rfl rfl ?_
  refine x_iload_n (pc := 0) dJ1_charAt_3b067_0 rfl ?_
  refine x_aload_n (pc := 1) dJ1_charAt_3b067_1 rfl ?_
  refine x_slenS (pc := 2) dJ1_charAt_3b067_2 hi ?_
  refine x_cS2v (pc := 3) dJ1_charAt_3b067_3 xl_J1_9 xs_J0_checkIndex_df160 (C_scheck G h k _ (vp_ge hk) (vp_ltI hk (by omega))) rfl rfl rfl ?_
  refine x_aload_n (pc := 6) dJ1_charAt_3b067_6 rfl ?_
  refine x_iload_n (pc := 7) dJ1_charAt_3b067_7 rfl ?_
  refine x_sbald (pc := 8) dJ1_charAt_3b067_8 hi hk ?_
  refine x_sipush (pc := 9) (v := (255 : Int32)) dJ1_charAt_3b067_9 (by decide) ?_
  refine x_iand (pc := 12) dJ1_charAt_3b067_12 ?_
  refine x_i2c (pc := 13) dJ1_charAt_3b067_13 ?_
  exact x_iret (pc := 14) dJ1_charAt_3b067_14 rfl (pk_nc _) rfl rfl ⟨rfl, rfl⟩
set_option maxRecDepth 100000 in
theorem C_charAt (G : xG) (h : xH) (i : Nat) (k : Int32) (hi : i < 18) (hk : vp_in k (xLen.getD i 0)) : Cd G 3 yJ0_charAt_5068e cJ0_charAt_5068e 2 (some .char) [.ref (xg_sK G i), .int k] h (some (.int (sCh i k))) h := by
  refine Ct.of (by decide) (by rfl) ?_
  refine Wp.eqs (L' := [(0, .ref (xg_sK G i)), (1, .int k)]) (st' := []) rfl rfl ?_
  refine x_aload_n (pc := 0) dJ0_charAt_5068e_0 rfl ?_
  refine x_callT (pc := 1) (As := []) (rest := []) dJ0_charAt_5068e_1 xl_J0_492 xv_J0_isLatin1_aae02 hi rfl rfl rfl rfl rfl rfl (C_isLatin1 G h i hi) (fun v h2 hq => ?_)
  obtain ⟨e1, e2⟩ := hq
  subst e1; subst e2
  refine x_if_eq (pc := 4) (x := 1) (tgt := 16) dJ0_charAt_5068e_4 (by decide) (fun z => absurd z (by decide)) (fun _ => ?_)
  refine x_aload_n (pc := 7) dJ0_charAt_5068e_7 rfl ?_
  refine x_sgetv (pc := 8) dJ0_charAt_5068e_8 xg_J0_9 hi ?_
  refine x_iload_n (pc := 11) dJ0_charAt_5068e_11 rfl ?_
  refine x_cS2i (pc := 12) dJ0_charAt_5068e_12 xl_J0_495 xs_J1_charAt_3b067 (C_lcharAt G _ i k hi hk) rfl rfl rfl ?_
  exact x_iret (pc := 15) dJ0_charAt_5068e_15 rfl (pk_nc _) rfl rfl ⟨rfl, rfl⟩
section XT2
variable {G : xG} {own : String} {cc : ByteArray} {nL : Nat} {nm : String} {ret : Option FieldType} {R : Room} {Z : xZ} {kc ks pc : Nat} {L : List (Nat × Value)} {st : List Value} {h : xH} {i idx : Nat}
theorem x_strLen (hd : decode cc pc = .ok (.invokevirtual idx, 3)) (hlk : Cond.methodLink own idx yJ0_length_8abf5 ∈ xW) (hi : i < 18) (hR : (Nat.ble (1 + 1) R.frames && Nat.ble (8 + (1 + 11) + 39 * 1) R.locals) = true) (hcs : (Nat.ble kc R.cells && Nat.ble ks R.slots) = true) (hsm : Nat.ble (st.map fun v => v.category).sum 8 = true) (kk : Wp G own cc nL nm ret R Z kc ks (pc + 3) L (.int (sLen i) :: st) h) : Wp G own cc nL nm ret R Z kc ks pc L (.ref (xg_sK G i) :: st) h :=
  x_callT (As := []) (rest := st) hd hlk xv_J0_length_8abf5 hi rfl rfl hR hcs hsm rfl (C_length G h i hi) (fun v h2 hq => by obtain ⟨e1, e2⟩ := hq; subst e1; subst e2; exact kk)
theorem x_strCh {k : Int32} (hd : decode cc pc = .ok (.invokevirtual idx, 3)) (hlk : Cond.methodLink own idx yJ0_charAt_5068e ∈ xW) (hi : i < 18) (hk : vp_in k (xLen.getD i 0)) (hR : (Nat.ble (3 + 1) R.frames && Nat.ble (8 + (2 + 11) + 39 * 3) R.locals) = true) (hcs : (Nat.ble kc R.cells && Nat.ble ks R.slots) = true) (hsm : Nat.ble (st.map fun v => v.category).sum 8 = true) (kk : Wp G own cc nL nm ret R Z kc ks (pc + 3) L (.int (sCh i k) :: st) h) : Wp G own cc nL nm ret R Z kc ks pc L (.int k :: .ref (xg_sK G i) :: st) h :=
  x_callT (As := [.int k]) (rest := st) hd hlk xv_J0_charAt_5068e hi rfl rfl hR hcs hsm rfl (C_charAt G h i k hi hk) (fun v h2 hq => by obtain ⟨e1, e2⟩ := hq; subst e1; subst e2; exact kk)
/-- a text constant in a local -/
theorem x_aloadS {k : Fin 4} (hd : decode cc pc = .ok (.aload_n k, 1)) (hv : xlk L (k : Nat) = some (.ref (xg_sK G i))) (kk : Wp G own cc nL nm ret R Z kc ks (pc + 1) L (.ref (xg_sK G i) :: st) h) : Wp G own cc nL nm ret R Z kc ks pc L st h := x_aload_n hd hv kk
end XT2
