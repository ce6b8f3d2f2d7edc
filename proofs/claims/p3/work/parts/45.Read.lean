theorem L_MQ_69 : (Jvm.Cond.methodLink "MailQueries" (69 : Nat) ({ cls := "MailQueries$Reader", name := "takesIn", desc := "([CI)Z" } : Jvm.MethodName)) ∈ TBL := TBL_in (List.mem_of_getElem? (i := 684) (by decide +kernel)) (by decide +kernel)
theorem L_MQ_80 : (Jvm.Cond.methodLink "MailQueries" (80 : Nat) ({ cls := "MailQueries$Reader", name := "exchange", desc := "(LMailQueries$Query;)LMailQueries$Query;" } : Jvm.MethodName)) ∈ TBL := TBL_in (List.mem_of_getElem? (i := 944) (by decide +kernel)) (by decide +kernel)
theorem L_MQ_77 : (Jvm.Cond.methodLink "MailQueries" (77 : Nat) ({ cls := "java/lang/IllegalArgumentException", name := "<init>", desc := "(Ljava/lang/String;)V" } : Jvm.MethodName)) ∈ TBL := TBL_in (List.mem_of_getElem? (i := 919) (by decide +kernel)) (by decide +kernel)
theorem L_MQ_73 : (Jvm.Cond.classLink "MailQueries" (73 : Nat) "java/lang/IllegalArgumentException") ∈ TBL := TBL_in (List.mem_of_getElem? (i := 879) (by decide +kernel)) (by decide +kernel)
theorem W_IAE_inst : (Jvm.Cond.instantiable "java/lang/IllegalArgumentException" (6 : Nat)) ∈ TBL := TBL_in (List.mem_of_getElem? (i := 880) (by decide +kernel)) (by decide +kernel)
theorem W_IAE_init : (Jvm.Cond.initialized "java/lang/IllegalArgumentException") ∈ TBL := TBL_in (List.mem_of_getElem? (i := 119) (by decide +kernel)) (by decide +kernel)
set_option maxRecDepth 100000 in
theorem W_MQ_read_code : (Jvm.Cond.code ({ cls := "MailQueries", name := "read", desc := "()I" } : Jvm.MethodName) prog_1_method_5_code (2 : Nat) (Option.some Jvm.ClassFile.FieldType.int)) ∈ TBL := TBL_in (List.mem_of_getElem? (i := 683) rfl) rfl
theorem W_MQ_read_in : (Jvm.Cond.instanceMethod ({ cls := "MailQueries", name := "read", desc := "()I" } : Jvm.MethodName)) ∈ TBL := TBL_in (List.mem_of_getElem? (i := 681) (by decide +kernel)) (by decide +kernel)
theorem W_MQ_read_se : (Jvm.Cond.selects "MailQueries" ({ cls := "MailQueries", name := "read", desc := "()I" } : Jvm.MethodName) ({ cls := "MailQueries", name := "read", desc := "()I" } : Jvm.MethodName)) ∈ TBL := TBL_in (List.mem_of_getElem? (i := 682) (by decide +kernel)) (by decide +kernel)
def y_MQ_read : MethodName := ⟨"MailQueries", "read", "()I"⟩
theorem d_MQ_read_0 : decode prog_1_method_5_code 0 = .ok (.aload_n 0, 1) := by decide +kernel
theorem d_MQ_read_1 : decode prog_1_method_5_code 1 = .ok (.getfield 30, 3) := by decide +kernel
theorem d_MQ_read_4 : decode prog_1_method_5_code 4 = .ok (.aload_n 0, 1) := by decide +kernel
theorem d_MQ_read_5 : decode prog_1_method_5_code 5 = .ok (.getfield 13, 3) := by decide +kernel
theorem d_MQ_read_8 : decode prog_1_method_5_code 8 = .ok (.aload_n 0, 1) := by decide +kernel
theorem d_MQ_read_9 : decode prog_1_method_5_code 9 = .ok (.getfield 16, 3) := by decide +kernel
theorem d_MQ_read_12 : decode prog_1_method_5_code 12 = .ok (.invokevirtual 69, 3) := by decide +kernel
theorem d_MQ_read_15 : decode prog_1_method_5_code 15 = .ok (.istore_n 1, 1) := by decide +kernel
theorem d_MQ_read_16 : decode prog_1_method_5_code 16 = .ok (.aload_n 0, 1) := by decide +kernel
theorem d_MQ_read_17 : decode prog_1_method_5_code 17 = .ok (.iconst 0, 1) := by decide +kernel
theorem d_MQ_read_18 : decode prog_1_method_5_code 18 = .ok (.putfield 16, 3) := by decide +kernel
theorem d_MQ_read_21 : decode prog_1_method_5_code 21 = .ok (.iload_n 1, 1) := by decide +kernel
theorem d_MQ_read_22 : decode prog_1_method_5_code 22 = .ok (.ifCond .ne 13, 3) := by decide +kernel
theorem d_MQ_read_25 : decode prog_1_method_5_code 25 = .ok (.new 73, 3) := by decide +kernel
theorem d_MQ_read_28 : decode prog_1_method_5_code 28 = .ok (.dup, 1) := by decide +kernel
theorem d_MQ_read_29 : decode prog_1_method_5_code 29 = .ok (.ldc 75, 2) := by decide +kernel
theorem d_MQ_read_31 : decode prog_1_method_5_code 31 = .ok (.invokespecial 77, 3) := by decide +kernel
theorem d_MQ_read_34 : decode prog_1_method_5_code 34 = .ok (.athrow, 1) := by decide +kernel
theorem d_MQ_read_35 : decode prog_1_method_5_code 35 = .ok (.aload_n 0, 1) := by decide +kernel
theorem d_MQ_read_36 : decode prog_1_method_5_code 36 = .ok (.aload_n 0, 1) := by decide +kernel
theorem d_MQ_read_37 : decode prog_1_method_5_code 37 = .ok (.getfield 30, 3) := by decide +kernel
theorem d_MQ_read_40 : decode prog_1_method_5_code 40 = .ok (.aload_n 0, 1) := by decide +kernel
theorem d_MQ_read_41 : decode prog_1_method_5_code 41 = .ok (.getfield 23, 3) := by decide +kernel
theorem d_MQ_read_44 : decode prog_1_method_5_code 44 = .ok (.invokevirtual 80, 3) := by decide +kernel
theorem d_MQ_read_47 : decode prog_1_method_5_code 47 = .ok (.putfield 23, 3) := by decide +kernel
theorem d_MQ_read_50 : decode prog_1_method_5_code 50 = .ok (.aload_n 0, 1) := by decide +kernel
theorem d_MQ_read_51 : decode prog_1_method_5_code 51 = .ok (.getfield 23, 3) := by decide +kernel
theorem d_MQ_read_54 : decode prog_1_method_5_code 54 = .ok (.getfield 84, 3) := by decide +kernel
theorem d_MQ_read_57 : decode prog_1_method_5_code 57 = .ok (.ireturn, 1) := by decide +kernel

/-- a contract's end: a reference, and the world afterwards -/
def ER (g : Gz) (w1 : va_W) (r : Nat) (A : Nat → Prop) : Array Value → State → Outcome → State → Prop := va_Qr (fun (_ : Unit) => True) (fun _ a t => a = r ∧ va_P (gD g) vwCl w1 t.heap ∧ va_D A w1) A
section CALLR
variable {p : Program} {l : Launch} {e : Env} {R : Room} {s : State} {m : MethodId} {args : Array Value} {below : List Frame} {meth : Method} {c : Code} {H : Heap} {locs : List Loc} {Q : State → Prop}
variable {pc : Nat} {ls : Array Slot} {rest st0 : List Value} {a : Array Value} {A2 A : Nat → Prop} {g : Gz} {wd wc wr w1 : va_W}
theorem cl_R {r : Nat} (isC isR : List Nat) (hC : isC.map (fun i => wd[i]?) = wc.map some) (hR : isR.map (fun i => wd[i]?) = wr.map some) (hn : va_nd isR = true) (hdis : ∀ i ∈ isR, i ∉ isC) (hP : va_P (gD g) vwCl wd H) (hD : va_D A wd) (hS : va_S A s.heap H locs) (hA : ∀ q : Nat, s.heap.size ≤ q → A q)
    (hrun : va_Run p l e R s m args below meth c H locs 0 0 0 0 (F0 m pc ls st0) rest (ER g w1 r (va_A wc H.size) a) (va_A wc H.size))
    (kk : ∀ (H1 : Heap) (locs1 : List Loc), va_P (gD g) vwCl (wr ++ w1) H1 → va_D A (wr ++ w1) → va_S A s.heap H1 locs1 → W p l e R s m args below meth c H1 locs1 0 0 Q (F0 m (pc + 3) ls (.ref r :: rest))) : W p l e R s m args below meth c H locs 0 0 Q (F0 m pc ls st0) := by
  have hF := in_A2 hD hS hA (fun _ h => h) isC hC
  refine va_callr hrun hS (fun q _ h => hF q h) hF (fun u ra t H1 locs1 ht hvm hw hB hz1 hk1 hS1 => ?_)
  obtain ⟨hra, hP1, hD1⟩ := hB
  subst hra
  rw [ht] at hP1
  obtain ⟨hP2, hD2⟩ := va_join hP hD isC isR hC hR hn hdis hk1 hF hP1 hD1
  exact kk H1 locs1 hP2 hD2 hS1
end CALLR
set_option maxHeartbeats 4000000 in
set_option maxRecDepth 100000 in
/-- the reader takes another query, and hands out its own -/
theorem c_Reader_exchange (l : Launch) (g : Gz) (a_t : Nat → Nat) (rq r_span r_new : Nat) (t : StI) : ∀ sz : Nat, Met l y_Reader_exchange (.code y_Reader_exchange prog_6_method_2_code 3 (some (.object "MailQueries$Query")) :: TBL) rm_Reader_exchange (va_Pc [.ref (a_t 0), .ref r_new] (Pre0 g (pic_Reader g a_t rq r_span t) sz)) (ER g (pic_Reader g a_t r_new r_span t) rq (va_A (pic_Reader g a_t rq r_span t) sz)) 0 0 (va_A (pic_Reader g a_t rq r_span t) sz) := by
  refine ct_w (Qc := fun A => ER g (pic_Reader g a_t r_new r_span t) rq A) (by decide) (Nat.le_of_ble_eq_true rfl) (fun p e s m args below meth c A hC H locs ls hP hD hS hl => ?_)
  obtain ⟨hx, hb, hr, hml, hown, htb, hlocks, hA, hAA, hG⟩ := id hC
  have hK := hG.1
  refine lv_aload_n hx hb d_Reader_exchange_0 rfl (lv_at hl 0 rfl) ?_
  refine va_get (D := gD g) (ci := 3) (v := .ref rq) (C := R_Reader) (T := T_Reader) (N := 9) hx hb htb in_Reader hown hK hP 0 rfl rfl 0 (by decide) (htb _ L_Reader_12) (fun _ h9 => h9) rfl d_Reader_exchange_1 ?_
  refine lv_astore_n (lv' := [(2, .ref rq), (0, .ref (a_t 0)), (1, .ref r_new)]) hx hb d_Reader_exchange_4 rfl hl (by decide) rfl (fun ls hl => ?_)
  refine lv_aload_n hx hb d_Reader_exchange_5 rfl (lv_at hl 1 rfl) ?_
  refine lv_aload_n hx hb d_Reader_exchange_6 rfl (lv_at hl 2 rfl) ?_
  refine va_put (D := gD g) (ci := 3) (v := .ref r_new) (ty := .object "MailQueries$Query") (C := R_Reader) (T := T_Reader) (N := 9) hx hb htb in_Reader ty_Reader ty_Reader_ok nm_Reader hown hK hP hD hS 0 rfl rfl 0 (by decide) (htb _ L_Reader_12) (fun _ h9 => h9) rfl (by decide +kernel) rfl rfl (Nat.le_of_ble_eq_true rfl) d_Reader_exchange_7 (fun H locs hP hD hS => ?_)
  have hP : va_P (gD g) vwCl (pic_Reader g a_t r_new r_span t) H := hP
  have hD : va_D A (pic_Reader g a_t r_new r_span t) := hD
  refine lv_aload_n hx hb d_Reader_exchange_10 rfl (lv_at hl 0 rfl) ?_
  exact W.aret hx hb hr (Or.inl ⟨_, rfl⟩) (Or.inr ⟨_, rfl⟩) (fun t ht hW => ⟨⟨(), _, rfl, trivial, rfl, by rw [ht]; exact hP, hD⟩, hS.F ht⟩) hS.2.2 d_Reader_exchange_11
/-- read, up to the reader's answer: (did it fill, the object, the spare query, the reader, the span) -/
def MQ_readF (F : Nat) (t spare reader span : StI) : Option (Int32 × StI × StI × StI × StI) := (Reader_takesIn F reader 600 (fun _ => t 1) spare span (t 2 0)).bind fun r => letS (va_up t 2 (fun _ => (0 : Int32))) fun t1 => some (r.1, t1, r.2.2.1, r.2.1, r.2.2.2)
theorem mb_MQ_read : Mb y_MQ_read prog_1_method_5_code 2 (some .int) 0 := ⟨W_MQ_read_code, W_MQ_read_in, W_MQ_read_se, I_MQ, by decide +kernel, by decide +kernel, by decide +kernel⟩
/-- the world of a read: the object, its spare query, its reader (whose query is rq), the reader's span -/
def w_read (g : Gz) (a_t a_spare a_reader a_span : Nat → Nat) (r_query rq r_printer r_rows r_judge : Nat) (t spare reader span : StI) : va_W := (pic_MQ g a_t r_query (a_reader 0) r_printer r_rows r_judge t) ++ (pic_Query g a_spare spare) ++ (pic_Reader g a_reader rq (a_span 0) reader) ++ (pic_Span g a_span span)
set_option maxHeartbeats 4000000 in
set_option maxRecDepth 100000 in
theorem k_MQ_read {p : Program} {l : Launch} {e : Env} {R : Room} {s : State} {m : MethodId} {args : Array Value} {below : List Frame} {meth : Method} {c : Code} {g : Gz} {A : Nat → Prop} {F : Nat} {Q : State → Prop} {a_t a_spare a_reader a_span : Nat → Nat} {r_query r_printer r_rows r_judge : Nat} (hRf : 10 ≤ R.frames) (hRl : 230 ≤ R.locals) (hC : Cx prog_1_method_5_code 2 (some .int) R_MQ p s m args meth c g A A) : ∀ (t spare reader span : StI) (res : Int32 × StI × StI × StI × StI), MQ_readF F t spare reader span = some res →
    (∀ (H : Heap) (locs : List Loc) (ls : Array Slot), va_P (gD g) vwCl (w_read g a_t a_spare a_reader a_span r_query (a_spare 0) r_printer r_rows r_judge res.2.1 res.2.2.1 res.2.2.2.1 res.2.2.2.2) H → va_D A (w_read g a_t a_spare a_reader a_span r_query (a_spare 0) r_printer r_rows r_judge res.2.1 res.2.2.1 res.2.2.2.1 res.2.2.2.2) → va_S A s.heap H locs → lv_has ls 2 [(0, .ref (a_t 0))] →
      W p l e R s m args below meth c H locs 0 0 Q (F0 m 22 ls [.int res.1])) →
    Go p l e R s m args below meth c g A A 2 Q (w_read g a_t a_spare a_reader a_span r_query (a_spare 0) r_printer r_rows r_judge t spare reader span) [(0, .ref (a_t 0))] 0 [] := by
  obtain ⟨hx, hb, hr, hml, hown, htb, hlocks, hA, hAA, hG⟩ := id hC
  have hK := hG.1
  intro t spare reader span res h kk H locs ls hP hD hS hl
  rw [MQ_readF] at h
  have hP : va_P (gD g) vwCl ((pic_MQ g a_t r_query (a_reader 0) r_printer r_rows r_judge t) ++ (pic_Query g a_spare spare) ++ (pic_Reader g a_reader (a_spare 0) (a_span 0) reader) ++ (pic_Span g a_span span)) H := hP
  have hD : va_D A ((pic_MQ g a_t r_query (a_reader 0) r_printer r_rows r_judge t) ++ (pic_Query g a_spare spare) ++ (pic_Reader g a_reader (a_spare 0) (a_span 0) reader) ++ (pic_Span g a_span span)) := hD
  refine lv_aload_n hx hb d_MQ_read_0 rfl (lv_at hl 0 rfl) ?_
  refine va_get (D := gD g) (ci := 7) (v := .ref (a_reader 0)) (C := R_MQ) (T := T_MQ) (N := 8) hx hb htb in_MQ hown hK hP 0 rfl rfl 4 (by decide) (htb _ L_MQ_30) (fun _ h9 => h9) rfl d_MQ_read_1 ?_
  refine lv_aload_n hx hb d_MQ_read_4 rfl (lv_at hl 0 rfl) ?_
  refine va_get (D := gD g) (ci := 7) (v := .ref (a_t 2)) (C := R_MQ) (T := T_MQ) (N := 8) hx hb htb in_MQ hown hK hP 0 rfl rfl 1 (by decide) (htb _ L_MQ_13) (fun _ h9 => h9) rfl d_MQ_read_5 ?_
  refine lv_aload_n hx hb d_MQ_read_8 rfl (lv_at hl 0 rfl) ?_
  refine va_get (D := gD g) (ci := 7) (v := .int (t 2 0)) (C := R_MQ) (T := T_MQ) (N := 8) hx hb htb in_MQ hown hK hP 0 rfl rfl 2 (by decide) (htb _ L_MQ_16) (fun _ h9 => h9) rfl d_MQ_read_9 ?_
  obtain ⟨r, hr2, h⟩ := Option.bind_eq_some_iff.mp h
  refine cl_I (wr := [(a_t 0, .inr (7, [.ref (a_t 1), .ref (a_t 2), .int (t 2 0), .ref r_query, .ref (a_reader 0), .ref r_printer, .ref r_rows, .ref r_judge])), (a_t 1, .inl (g.2.2.1 1, 20, .inl (t 0)))]) [14, 15, 16, 17, 2, 3, 4, 5, 6, 7, 8, 9, 10, 11, 12, 13, 18] [0, 1] rfl rfl rfl (by decide) hP hD hS hA (va_runV (As := [.ref (a_t 2), .int (t 2 0)]) (rest := []) ⟨hx, hb, hml, hown, htb⟩ (c_Reader_takesIn l g F a_reader (fun _ => a_t 2) a_spare a_span reader 600 (fun _ => t 1) spare span (t 2 0) _ hr2 H.size) (cw_V htb mb_Reader_takesIn (htb _ L_MQ_69) rfl rfl ⟨Nat.le_trans (by decide) hRf, Nat.le_trans (by decide) hRl⟩) (pre_V (va_recv hK hP (ci := 3) (q0 := 14) rfl rfl) (pre_S [14, 15, 16, 17, 2, 3, 4, 5, 6, 7, 8, 9, 10, 11, 12, 13, 18] rfl rfl hP hD hS hA hAA hG)) rfl rfl hl.1 rfl (lv_room (Nat.le_of_ble_eq_true rfl)) d_MQ_read_12 ⟨Nat.zero_le _, Nat.zero_le _⟩) (fun H locs hP hD hS => ?_)
  have hP : va_P (gD g) vwCl ((pic_MQ g a_t r_query (a_reader 0) r_printer r_rows r_judge t) ++ (pic_Query g a_spare r.2.2.1) ++ (pic_Reader g a_reader (a_spare 0) (a_span 0) r.2.1) ++ (pic_Span g a_span r.2.2.2)) H := hP.sub [0, 1, 6, 7, 8, 9, 10, 11, 12, 13, 14, 15, 16, 17, 2, 3, 4, 5, 18] rfl
  have hD : va_D A ((pic_MQ g a_t r_query (a_reader 0) r_printer r_rows r_judge t) ++ (pic_Query g a_spare r.2.2.1) ++ (pic_Reader g a_reader (a_spare 0) (a_span 0) r.2.1) ++ (pic_Span g a_span r.2.2.2)) := hD.sub [0, 1, 6, 7, 8, 9, 10, 11, 12, 13, 14, 15, 16, 17, 2, 3, 4, 5, 18] rfl rfl
  refine lv_istore_n (lv' := [(1, .int r.1), (0, .ref (a_t 0))]) hx hb d_MQ_read_15 rfl hl (by decide) rfl (fun ls hl => ?_)
  refine lv_aload_n hx hb d_MQ_read_16 rfl (lv_at hl 1 rfl) ?_
  refine lv_iconst (v := 0) hx hb d_MQ_read_17 (by decide) ?_
  refine va_put (D := gD g) (ci := 7) (v := .int (0 : Int32)) (ty := .int) (C := R_MQ) (T := T_MQ) (N := 8) hx hb htb in_MQ ty_MQ ty_MQ_ok nm_MQ hown hK hP hD hS 0 rfl rfl 2 (by decide) (htb _ L_MQ_16) (fun _ h9 => h9) rfl (by decide +kernel) rfl rfl (Nat.le_of_ble_eq_true rfl) d_MQ_read_18 (fun H locs hP hD hS => ?_)
  obtain ⟨t1, et1, h⟩ := letS_el h
  have hP : va_P (gD g) vwCl ((pic_MQ g a_t r_query (a_reader 0) r_printer r_rows r_judge t1) ++ (pic_Query g a_spare r.2.2.1) ++ (pic_Reader g a_reader (a_spare 0) (a_span 0) r.2.1) ++ (pic_Span g a_span r.2.2.2)) H := by rw [et1]; exact hP
  have hD : va_D A ((pic_MQ g a_t r_query (a_reader 0) r_printer r_rows r_judge t1) ++ (pic_Query g a_spare r.2.2.1) ++ (pic_Reader g a_reader (a_spare 0) (a_span 0) r.2.1) ++ (pic_Span g a_span r.2.2.2)) := by rw [et1]; exact hD
  refine lv_iload_n hx hb d_MQ_read_21 rfl (lv_at hl 0 rfl) ?_
  cases h
  exact kk H locs ls hP hD hS (lv_sub hl [1] rfl)
def rm_MQ_read : Room := { frames := 10, cells := 0, slots := 0, locals := 230 }
set_option maxHeartbeats 4000000 in
set_option maxRecDepth 100000 in
/-- a text without a fault: the spare query is the query then -/
theorem c_MQ_read (l : Launch) (g : Gz) (F : Nat) (a_t a_spare a_reader a_span : Nat → Nat) (r_query r_printer r_rows r_judge : Nat) (t spare reader span : StI) (res : Int32 × StI × StI × StI × StI) (h : MQ_readF F t spare reader span = some res) (h1 : res.1 ≠ 0) : ∀ sz : Nat, Met l y_MQ_read (.code y_MQ_read prog_1_method_5_code 2 (some .int) :: TBL) rm_MQ_read (va_Pc [.ref (a_t 0)] (Pre0 g (w_read g a_t a_spare a_reader a_span r_query (a_spare 0) r_printer r_rows r_judge t spare reader span) sz)) (EI g (w_read g a_t a_spare a_reader a_span (a_spare 0) r_query r_printer r_rows r_judge res.2.1 res.2.2.1 res.2.2.2.1 res.2.2.2.2) (res.2.2.1 3 0) (va_A (w_read g a_t a_spare a_reader a_span r_query (a_spare 0) r_printer r_rows r_judge t spare reader span) sz)) 0 0 (va_A (w_read g a_t a_spare a_reader a_span r_query (a_spare 0) r_printer r_rows r_judge t spare reader span) sz) := by
  refine ct_w (Qc := fun A => EI g (w_read g a_t a_spare a_reader a_span (a_spare 0) r_query r_printer r_rows r_judge res.2.1 res.2.2.1 res.2.2.2.1 res.2.2.2.2) (res.2.2.1 3 0) A) (by decide) (Nat.le_of_ble_eq_true rfl) (fun p e s m args below meth c A hC => k_MQ_read (Nat.le_refl _) (Nat.le_refl _) hC t spare reader span res h (fun H locs ls hP hD hS hl => ?_))
  obtain ⟨hx, hb, hr, hml, hown, htb, hlocks, hA, hAA, hG⟩ := id hC
  have hK := hG.1
  have hP : va_P (gD g) vwCl ((pic_MQ g a_t r_query (a_reader 0) r_printer r_rows r_judge res.2.1) ++ (pic_Query g a_spare res.2.2.1) ++ (pic_Reader g a_reader (a_spare 0) (a_span 0) res.2.2.2.1) ++ (pic_Span g a_span res.2.2.2.2)) H := hP
  have hD : va_D A ((pic_MQ g a_t r_query (a_reader 0) r_printer r_rows r_judge res.2.1) ++ (pic_Query g a_spare res.2.2.1) ++ (pic_Reader g a_reader (a_spare 0) (a_span 0) res.2.2.2.1) ++ (pic_Span g a_span res.2.2.2.2)) := hD
  refine lv_if_ne (tgt := 35) hx hb d_MQ_read_22 (by decide) (fun _ => ?_) (fun c1 => absurd c1 (fun z => h1 (by simpa using z)))
  refine lv_aload_n hx hb d_MQ_read_35 rfl (lv_at hl 0 rfl) ?_
  refine lv_aload_n hx hb d_MQ_read_36 rfl (lv_at hl 0 rfl) ?_
  refine va_get (D := gD g) (ci := 7) (v := .ref (a_reader 0)) (C := R_MQ) (T := T_MQ) (N := 8) hx hb htb in_MQ hown hK hP 0 rfl rfl 4 (by decide) (htb _ L_MQ_30) (fun _ h9 => h9) rfl d_MQ_read_37 ?_
  refine lv_aload_n hx hb d_MQ_read_40 rfl (lv_at hl 0 rfl) ?_
  refine va_get (D := gD g) (ci := 7) (v := .ref r_query) (C := R_MQ) (T := T_MQ) (N := 8) hx hb htb in_MQ hown hK hP 0 rfl rfl 3 (by decide) (htb _ L_MQ_23) (fun _ h9 => h9) rfl d_MQ_read_41 ?_
  refine cl_R (wr := (pic_MQ g a_t r_query (a_reader 0) r_printer r_rows r_judge res.2.1) ++ (pic_Query g a_spare res.2.2.1) ++ (pic_Span g a_span res.2.2.2.2)) [14, 15, 16, 17] [0, 1, 2, 3, 4, 5, 6, 7, 8, 9, 10, 11, 12, 13, 18] rfl rfl rfl (by decide) hP hD hS hA (va_runV (As := [.ref r_query]) (rest := [.ref (a_t 0)]) ⟨hx, hb, hml, hown, htb⟩ (c_Reader_exchange l g a_reader (a_spare 0) (a_span 0) r_query res.2.2.2.1 H.size) (cw_V htb mb_Reader_exchange (htb _ L_MQ_80) rfl rfl ⟨Nat.le_of_ble_eq_true rfl, Nat.le_of_ble_eq_true rfl⟩) (pre_V (va_recv hK hP (ci := 3) (q0 := 14) rfl rfl) (pre_S [14, 15, 16, 17] rfl rfl hP hD hS hA hAA hG)) rfl rfl hl.1 rfl (lv_room (Nat.le_of_ble_eq_true rfl)) d_MQ_read_44 ⟨Nat.zero_le _, Nat.zero_le _⟩) (fun H locs hP hD hS => ?_)
  refine va_put (D := gD g) (ci := 7) (v := .ref (a_spare 0)) (ty := .object "MailQueries$Query") (C := R_MQ) (T := T_MQ) (N := 8) hx hb htb in_MQ ty_MQ ty_MQ_ok nm_MQ hown hK hP hD hS 0 rfl rfl 3 (by decide) (htb _ L_MQ_23) (fun _ h9 => h9) rfl (by decide +kernel) rfl rfl (Nat.le_of_ble_eq_true rfl) d_MQ_read_47 (fun H locs hP hD hS => ?_)
  have hP : va_P (gD g) vwCl ((pic_MQ g a_t (a_spare 0) (a_reader 0) r_printer r_rows r_judge res.2.1) ++ (pic_Query g a_spare res.2.2.1) ++ (pic_Reader g a_reader r_query (a_span 0) res.2.2.2.1) ++ (pic_Span g a_span res.2.2.2.2)) H := hP.sub [0, 1, 2, 3, 4, 5, 6, 7, 8, 9, 10, 11, 12, 13, 15, 16, 17, 18, 14] rfl
  have hD : va_D A ((pic_MQ g a_t (a_spare 0) (a_reader 0) r_printer r_rows r_judge res.2.1) ++ (pic_Query g a_spare res.2.2.1) ++ (pic_Reader g a_reader r_query (a_span 0) res.2.2.2.1) ++ (pic_Span g a_span res.2.2.2.2)) := hD.sub [0, 1, 2, 3, 4, 5, 6, 7, 8, 9, 10, 11, 12, 13, 15, 16, 17, 18, 14] rfl rfl
  refine lv_aload_n hx hb d_MQ_read_50 rfl (lv_at hl 0 rfl) ?_
  refine va_get (D := gD g) (ci := 7) (v := .ref (a_spare 0)) (C := R_MQ) (T := T_MQ) (N := 8) hx hb htb in_MQ hown hK hP 0 rfl rfl 3 (by decide) (htb _ L_MQ_23) (fun _ h9 => h9) rfl d_MQ_read_51 ?_
  refine va_getN (D := gD g) (ci := 1) (v := .int (res.2.2.1 3 0)) (C := R_Query) (T := T_Query) (N := 14) hx hb htb in_Query hown hK hP 3 rfl rfl 3 (by decide) (nf_of hG N_MQ_84) (fun _ h9 => h9) rfl d_MQ_read_54 ?_
  exact W.iret hx hb hr (fun t ht hW => ⟨⟨_, (), rfl, rfl, by rw [ht]; exact hP, hD⟩, hS.F ht⟩) hS.2.2 d_MQ_read_57

