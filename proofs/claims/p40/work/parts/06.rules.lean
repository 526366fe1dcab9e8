theorem ch_okl {g : ch_G} {v : Value} : ch_ok g (.inl v) := fun a h => by cases h
theorem ch_ok1 {g : ch_G} {v : Value} {l : List ch_V} (h : ∀ w ∈ l, ch_ok g w) : ∀ w ∈ (.inl v :: l : List ch_V), ch_ok g w := fun w hw => (List.mem_cons.mp hw).elim (fun e => by rw [e]; exact ch_okl) (h w)
theorem ch_ok2 {g : ch_G} {v : ch_V} {l : List ch_V} (hv : ch_ok g v) (h : ∀ w ∈ l, ch_ok g w) : ∀ w ∈ (v :: l : List ch_V), ch_ok g w := fun w hw => (List.mem_cons.mp hw).elim (fun e => by rw [e]; exact hv) (h w)
theorem ch_ok0 {g : ch_G} {v : ch_V} {l : List ch_V} (h : ∀ w ∈ (v :: l : List ch_V), ch_ok g w) : ∀ w ∈ l, ch_ok g w := fun w hw => h w (List.mem_cons_of_mem _ hw)
theorem ch_okh {g : ch_G} {v : ch_V} {l : List ch_V} (h : ∀ w ∈ (v :: l : List ch_V), ch_ok g w) : ch_ok g v := h v List.mem_cons_self
section CHR
variable {g : ch_G} {f : ch_MI} {R : Room} {E : ch_En} {pc : Nat} {ls : ch_LT} {rest : List ch_V} {mem : ch_M} {k : Nat}
/-- one instruction: the frame's stack and place alone -/
theorem ch_go {pc' : Nat} {st st' : List ch_V}
    (h : ∀ (p : Program) (e : Env) (s : State) (m : MethodId) (args : Array Value) (below : List Frame) (meth : Method) (c : Code) (H : Heap) (locs : List Loc) (lm : Array Slot) (Q : State → Prop),
      ch_FR g f p s m args meth c → ch_Rp g mem H → va_S (ch_A g) s.heap H locs → (∀ o ∈ ls, ∀ v, o = some v → ch_ok g v) → (∀ v ∈ st, ch_ok g v) → ch_LR g (ch_ml f) ls lm →
      ((∀ v ∈ st', ch_ok g v) → W p (ch_l g) e R s m args below meth c H locs k (6 * k) Q (F0 m pc' lm (st'.map (ch_tr g)))) → W p (ch_l g) e R s m args below meth c H locs k (6 * k) Q (F0 m pc lm (st.map (ch_tr g))))
    (kk : ch_J g f R E pc' ls st' mem k) : ch_J g f R E pc ls st mem k :=
  fun p e s m args below meth c H locs lm hF hR hS ho hs hL => h p e s m args below meth c H locs lm _ hF hR hS ho hs hL (fun hs' => kk p e s m args below meth c H locs lm hF hR hS ho hs' hL)
theorem ch_iconst {n : Int} {v : Int32} (hd : decode (ch_bc f) pc = .ok (.iconst n, 1)) (hv : Int32.ofInt n = v) (kk : ch_J g f R E (pc + 1) ls (.inl (.int v) :: rest) mem k) : ch_J g f R E pc ls (rest) mem k :=
  ch_go (fun _ _ _ _ _ _ _ _ _ _ _ _ hF _ _ ho hs hL q => lv_iconst hF.1 hF.2.1 hd hv (q (ch_ok1 hs))) kk
theorem ch_bipush {n : Int} {v : Int32} (hd : decode (ch_bc f) pc = .ok (.bipush n, 2)) (hv : (Int8.ofInt n).toInt32 = v) (kk : ch_J g f R E (pc + 2) ls (.inl (.int v) :: rest) mem k) : ch_J g f R E pc ls (rest) mem k :=
  ch_go (fun _ _ _ _ _ _ _ _ _ _ _ _ hF _ _ ho hs hL q => lv_bipush hF.1 hF.2.1 hd hv (q (ch_ok1 hs))) kk
theorem ch_sipush {n : Int} {v : Int32} (hd : decode (ch_bc f) pc = .ok (.sipush n, 3)) (hv : (Int16.ofInt n).toInt32 = v) (kk : ch_J g f R E (pc + 3) ls (.inl (.int v) :: rest) mem k) : ch_J g f R E pc ls (rest) mem k :=
  ch_go (fun _ _ _ _ _ _ _ _ _ _ _ _ hF _ _ ho hs hL q => lv_sipush hF.1 hF.2.1 hd hv (q (ch_ok1 hs))) kk
theorem ch_ldc {i : Nat} {v : Int32} (hd : decode (ch_bc f) pc = .ok (.ldc i, 2)) (hw : Cond.constant (ch_nm f).cls i v ∈ ch_good) (kk : ch_J g f R E (pc + 2) ls (.inl (.int v) :: rest) mem k) : ch_J g f R E pc ls (rest) mem k :=
  ch_go (fun _ _ _ _ _ _ _ _ _ _ _ _ hF _ _ ho hs hL q => lv_ldc hF.1 hF.2.1 hF.2.2.2.2.1 (hF.2.2.2.2.2.1 _ hw) hd (q (ch_ok1 hs))) kk
theorem ch_ldcf {i : Nat} {v : UInt32} (hd : decode (ch_bc f) pc = .ok (.ldc i, 2)) (hw : Cond.constantFloat (ch_nm f).cls i v ∈ ch_good) (kk : ch_J g f R E (pc + 2) ls (.inl (.float v) :: rest) mem k) : ch_J g f R E pc ls (rest) mem k :=
  ch_go (fun _ _ _ _ _ _ _ _ _ _ _ _ hF _ _ ho hs hL q => lv_ldcf hF.1 hF.2.1 hF.2.2.2.2.1 (hF.2.2.2.2.2.1 _ hw) hd (q (ch_ok1 hs))) kk
theorem ch_iload_n {i : Nat} {n : Fin 4} {x : Int32} (hd : decode (ch_bc f) pc = .ok (.iload_n n, 1)) (hi : (n : Nat) = i) (hl : ls[i]? = some (some (.inl (.int x)))) (kk : ch_J g f R E (pc + 1) ls (.inl (.int x) :: rest) mem k) : ch_J g f R E pc ls (rest) mem k :=
  ch_go (fun _ _ _ _ _ _ _ _ _ _ _ _ hF _ _ ho hs hL q => lv_iload_n hF.1 hF.2.1 hd hi (hL.2.2 _ _ hl) (q (ch_ok1 hs))) kk
theorem ch_iload {i : Nat} {x : Int32} (hd : decode (ch_bc f) pc = .ok (.iload i, 2)) (hl : ls[i]? = some (some (.inl (.int x)))) (kk : ch_J g f R E (pc + 2) ls (.inl (.int x) :: rest) mem k) : ch_J g f R E pc ls (rest) mem k :=
  ch_go (fun _ _ _ _ _ _ _ _ _ _ _ _ hF _ _ ho hs hL q => lv_iload hF.1 hF.2.1 hd (hL.2.2 _ _ hl) (q (ch_ok1 hs))) kk
theorem ch_aload_n {i : Nat} {n : Fin 4} {a : ch_Ad} (hd : decode (ch_bc f) pc = .ok (.aload_n n, 1)) (hi : (n : Nat) = i) (hl : ls[i]? = some (some (.inr a))) (kk : ch_J g f R E (pc + 1) ls (.inr a :: rest) mem k) : ch_J g f R E pc ls (rest) mem k :=
  ch_go (fun _ _ _ _ _ _ _ _ _ _ _ _ hF _ _ ho hs hL q => lv_aload_n hF.1 hF.2.1 hd hi (hL.2.2 _ _ hl) (q (ch_ok2 (ho _ (List.mem_of_getElem? hl) _ rfl) hs))) kk
theorem ch_aload {i : Nat} {a : ch_Ad} (hd : decode (ch_bc f) pc = .ok (.aload i, 2)) (hl : ls[i]? = some (some (.inr a))) (kk : ch_J g f R E (pc + 2) ls (.inr a :: rest) mem k) : ch_J g f R E pc ls (rest) mem k :=
  ch_go (fun _ _ _ _ _ _ _ _ _ _ _ _ hF _ _ ho hs hL q => lv_aload hF.1 hF.2.1 hd (hL.2.2 _ _ hl) (q (ch_ok2 (ho _ (List.mem_of_getElem? hl) _ rfl) hs))) kk
theorem ch_dload {i : Nat} {x : UInt64} (hd : decode (ch_bc f) pc = .ok (.dload i, 2)) (hl : ls[i]? = some (some (.inl (.double x)))) (kk : ch_J g f R E (pc + 2) ls (.inl (.double x) :: rest) mem k) : ch_J g f R E pc ls (rest) mem k :=
  ch_go (fun _ _ _ _ _ _ _ _ _ _ _ _ hF _ _ ho hs hL q => lv_dload hF.1 hF.2.1 hd (hL.2.2 _ _ hl) (q (ch_ok1 hs))) kk
theorem ch_dup {v : ch_V} (hd : decode (ch_bc f) pc = .ok (.dup, 1)) (hc : ch_cat v = 1) (kk : ch_J g f R E (pc + 1) ls (v :: v :: rest) mem k) : ch_J g f R E pc ls (v :: rest) mem k :=
  ch_go (fun _ _ _ _ _ _ _ _ _ _ _ _ hF _ _ ho hs hL q => lv_dup hF.1 hF.2.1 hd ((ch_cat_tr g v).trans hc) (q (ch_ok2 (ch_okh hs) hs))) kk
theorem ch_pop {v : ch_V} (hd : decode (ch_bc f) pc = .ok (.pop, 1)) (hc : ch_cat v = 1) (kk : ch_J g f R E (pc + 1) ls (rest) mem k) : ch_J g f R E pc ls (v :: rest) mem k :=
  ch_go (fun _ _ _ _ _ _ _ _ _ _ _ _ hF _ _ ho hs hL q => lv_pop hF.1 hF.2.1 hd ((ch_cat_tr g v).trans hc) (q (ch_ok0 hs))) kk
theorem ch_dup_x1 {v w : ch_V} (hd : decode (ch_bc f) pc = .ok (.dup_x1, 1)) (hc : ch_cat v = 1) (hc2 : ch_cat w = 1) (kk : ch_J g f R E (pc + 1) ls (v :: w :: v :: rest) mem k) : ch_J g f R E pc ls (v :: w :: rest) mem k :=
  ch_go (fun _ _ _ _ _ _ _ _ _ _ _ _ hF _ _ ho hs hL q => lv_dup_x1 hF.1 hF.2.1 hd ((ch_cat_tr g v).trans hc) ((ch_cat_tr g w).trans hc2) (q (ch_ok2 (ch_okh hs) (ch_ok2 (ch_okh (ch_ok0 hs)) (ch_ok2 (ch_okh hs) (ch_ok0 (ch_ok0 hs))))))) kk
theorem ch_dup_x2 {v w u : ch_V} (hd : decode (ch_bc f) pc = .ok (.dup_x2, 1)) (hc : ch_cat v = 1) (hc2 : ch_cat w = 1) (hc3 : ch_cat u = 1) (kk : ch_J g f R E (pc + 1) ls (v :: w :: u :: v :: rest) mem k) : ch_J g f R E pc ls (v :: w :: u :: rest) mem k :=
  ch_go (fun _ _ _ _ _ _ _ _ _ _ _ _ hF _ _ ho hs hL q => lv_dup_x2 hF.1 hF.2.1 hd ((ch_cat_tr g v).trans hc) ((ch_cat_tr g w).trans hc2) ((ch_cat_tr g u).trans hc3) (q (ch_ok2 (ch_okh hs) (ch_ok2 (ch_okh (ch_ok0 hs)) (ch_ok2 (ch_okh (ch_ok0 (ch_ok0 hs))) (ch_ok2 (ch_okh hs) (ch_ok0 (ch_ok0 (ch_ok0 hs))))))))) kk
theorem ch_dup2 {v w : ch_V} (hd : decode (ch_bc f) pc = .ok (.dup2, 1)) (hc : ch_cat v = 1) (hc2 : ch_cat w = 1) (kk : ch_J g f R E (pc + 1) ls (v :: w :: v :: w :: rest) mem k) : ch_J g f R E pc ls (v :: w :: rest) mem k :=
  ch_go (fun _ _ _ _ _ _ _ _ _ _ _ _ hF _ _ ho hs hL q => lv_dup2_11 hF.1 hF.2.1 hd ((ch_cat_tr g v).trans hc) ((ch_cat_tr g w).trans hc2) (q (ch_ok2 (ch_okh hs) (ch_ok2 (ch_okh (ch_ok0 hs)) hs)))) kk
theorem ch_iadd {x y : Int32} (hd : decode (ch_bc f) pc = .ok (.iadd, 1)) (kk : ch_J g f R E (pc + 1) ls (.inl (.int (x + y)) :: rest) mem k) : ch_J g f R E pc ls (.inl (.int y) :: .inl (.int x) :: rest) mem k :=
  ch_go (fun _ _ _ _ _ _ _ _ _ _ _ _ hF _ _ ho hs hL q => lv_iadd hF.1 hF.2.1 hd (q (ch_ok1 (ch_ok0 (ch_ok0 hs))))) kk
theorem ch_isub {x y : Int32} (hd : decode (ch_bc f) pc = .ok (.isub, 1)) (kk : ch_J g f R E (pc + 1) ls (.inl (.int (x - y)) :: rest) mem k) : ch_J g f R E pc ls (.inl (.int y) :: .inl (.int x) :: rest) mem k :=
  ch_go (fun _ _ _ _ _ _ _ _ _ _ _ _ hF _ _ ho hs hL q => lv_isub hF.1 hF.2.1 hd (q (ch_ok1 (ch_ok0 (ch_ok0 hs))))) kk
theorem ch_imul {x y : Int32} (hd : decode (ch_bc f) pc = .ok (.imul, 1)) (kk : ch_J g f R E (pc + 1) ls (.inl (.int (x * y)) :: rest) mem k) : ch_J g f R E pc ls (.inl (.int y) :: .inl (.int x) :: rest) mem k :=
  ch_go (fun _ _ _ _ _ _ _ _ _ _ _ _ hF _ _ ho hs hL q => lv_imul hF.1 hF.2.1 hd (q (ch_ok1 (ch_ok0 (ch_ok0 hs))))) kk
theorem ch_iand {x y : Int32} (hd : decode (ch_bc f) pc = .ok (.iand, 1)) (kk : ch_J g f R E (pc + 1) ls (.inl (.int (x &&& y)) :: rest) mem k) : ch_J g f R E pc ls (.inl (.int y) :: .inl (.int x) :: rest) mem k :=
  ch_go (fun _ _ _ _ _ _ _ _ _ _ _ _ hF _ _ ho hs hL q => lv_iand hF.1 hF.2.1 hd (q (ch_ok1 (ch_ok0 (ch_ok0 hs))))) kk
theorem ch_ior {x y : Int32} (hd : decode (ch_bc f) pc = .ok (.ior, 1)) (kk : ch_J g f R E (pc + 1) ls (.inl (.int (x ||| y)) :: rest) mem k) : ch_J g f R E pc ls (.inl (.int y) :: .inl (.int x) :: rest) mem k :=
  ch_go (fun _ _ _ _ _ _ _ _ _ _ _ _ hF _ _ ho hs hL q => lv_ior hF.1 hF.2.1 hd (q (ch_ok1 (ch_ok0 (ch_ok0 hs))))) kk
theorem ch_ixor {x y : Int32} (hd : decode (ch_bc f) pc = .ok (.ixor, 1)) (kk : ch_J g f R E (pc + 1) ls (.inl (.int (x ^^^ y)) :: rest) mem k) : ch_J g f R E pc ls (.inl (.int y) :: .inl (.int x) :: rest) mem k :=
  ch_go (fun _ _ _ _ _ _ _ _ _ _ _ _ hF _ _ ho hs hL q => lv_ixor hF.1 hF.2.1 hd (q (ch_ok1 (ch_ok0 (ch_ok0 hs))))) kk
theorem ch_ishl {x y : Int32} (hd : decode (ch_bc f) pc = .ok (.ishl, 1)) (kk : ch_J g f R E (pc + 1) ls (.inl (.int (x <<< (y &&& 31))) :: rest) mem k) : ch_J g f R E pc ls (.inl (.int y) :: .inl (.int x) :: rest) mem k :=
  ch_go (fun _ _ _ _ _ _ _ _ _ _ _ _ hF _ _ ho hs hL q => lv_ishl hF.1 hF.2.1 hd (q (ch_ok1 (ch_ok0 (ch_ok0 hs))))) kk
theorem ch_idiv {x y : Int32} (hd : decode (ch_bc f) pc = .ok (.idiv, 1)) (hz : ¬ y = 0) (kk : ch_J g f R E (pc + 1) ls (.inl (.int (x / y)) :: rest) mem k) : ch_J g f R E pc ls (.inl (.int y) :: .inl (.int x) :: rest) mem k :=
  ch_go (fun _ _ _ _ _ _ _ _ _ _ _ _ hF _ _ ho hs hL q => lv_idiv hF.1 hF.2.1 hd hz (q (ch_ok1 (ch_ok0 (ch_ok0 hs))))) kk
theorem ch_irem {x y : Int32} (hd : decode (ch_bc f) pc = .ok (.irem, 1)) (hz : ¬ y = 0) (kk : ch_J g f R E (pc + 1) ls (.inl (.int (x - x / y * y)) :: rest) mem k) : ch_J g f R E pc ls (.inl (.int y) :: .inl (.int x) :: rest) mem k :=
  ch_go (fun _ _ _ _ _ _ _ _ _ _ _ _ hF _ _ ho hs hL q => lv_irem hF.1 hF.2.1 hd hz (q (ch_ok1 (ch_ok0 (ch_ok0 hs))))) kk
theorem ch_iushr {x y v : Int32} (hd : decode (ch_bc f) pc = .ok (.iushr, 1)) (hv : (x.toUInt32 >>> (y.toUInt32 &&& Int32.toUInt32 31)).toInt32 = v) (kk : ch_J g f R E (pc + 1) ls (.inl (.int v) :: rest) mem k) : ch_J g f R E pc ls (.inl (.int y) :: .inl (.int x) :: rest) mem k :=
  ch_go (fun _ _ _ _ _ _ _ _ _ _ _ _ hF _ _ ho hs hL q => lv_iushr hF.1 hF.2.1 hd hv (q (ch_ok1 (ch_ok0 (ch_ok0 hs))))) kk
theorem ch_i2l {x : Int32} (hd : decode (ch_bc f) pc = .ok (.i2l, 1)) (kk : ch_J g f R E (pc + 1) ls (.inl (.long x.toInt64) :: rest) mem k) : ch_J g f R E pc ls (.inl (.int x) :: rest) mem k :=
  ch_go (fun _ _ _ _ _ _ _ _ _ _ _ _ hF _ _ ho hs hL q => lv_i2l hF.1 hF.2.1 hd rfl (q (ch_ok1 (ch_ok0 hs)))) kk
theorem ch_i2c {x : Int32} (hd : decode (ch_bc f) pc = .ok (.i2c, 1)) (kk : ch_J g f R E (pc + 1) ls (.inl (.int ((x.toUInt32 % 65536).toInt32)) :: rest) mem k) : ch_J g f R E pc ls (.inl (.int x) :: rest) mem k :=
  ch_go (fun _ _ _ _ _ _ _ _ _ _ _ _ hF _ _ ho hs hL q => lv_i2c hF.1 hF.2.1 hd rfl (q (ch_ok1 (ch_ok0 hs)))) kk
theorem ch_i2d {x : Int32} (hd : decode (ch_bc f) pc = .ok (.i2d, 1)) (kk : ch_J g f R E (pc + 1) ls (.inl (.double (FP.i2d x)) :: rest) mem k) : ch_J g f R E pc ls (.inl (.int x) :: rest) mem k :=
  ch_go (fun _ _ _ _ _ _ _ _ _ _ _ _ hF _ _ ho hs hL q => lv_i2d hF.1 hF.2.1 hd (q (ch_ok1 (ch_ok0 hs)))) kk
theorem ch_i2f {x : Int32} (hd : decode (ch_bc f) pc = .ok (.i2f, 1)) (kk : ch_J g f R E (pc + 1) ls (.inl (.float (FP.i2f x)) :: rest) mem k) : ch_J g f R E pc ls (.inl (.int x) :: rest) mem k :=
  ch_go (fun _ _ _ _ _ _ _ _ _ _ _ _ hF _ _ ho hs hL q => lv_i2f hF.1 hF.2.1 hd (q (ch_ok1 (ch_ok0 hs)))) kk
theorem ch_f2d {x : UInt32} (hd : decode (ch_bc f) pc = .ok (.f2d, 1)) (hn : vf_n64 (FP.f2d x)) (kk : ch_J g f R E (pc + 1) ls (.inl (.double (FP.f2d x)) :: rest) mem k) : ch_J g f R E pc ls (.inl (.float x) :: rest) mem k :=
  ch_go (fun _ _ _ _ _ _ _ _ _ _ _ _ hF _ _ ho hs hL q => lv_f2d hF.1 hF.2.1 hd hn (q (ch_ok1 (ch_ok0 hs)))) kk
theorem ch_fdiv {x y : UInt32} (hd : decode (ch_bc f) pc = .ok (.fdiv, 1)) (hn : vf_n32 (FP.fdiv x y)) (kk : ch_J g f R E (pc + 1) ls (.inl (.float (FP.fdiv x y)) :: rest) mem k) : ch_J g f R E pc ls (.inl (.float y) :: .inl (.float x) :: rest) mem k :=
  ch_go (fun _ _ _ _ _ _ _ _ _ _ _ _ hF _ _ ho hs hL q => lv_fdiv hF.1 hF.2.1 hd hn (q (ch_ok1 (ch_ok0 (ch_ok0 hs))))) kk
theorem ch_ddiv {x y : UInt64} (hd : decode (ch_bc f) pc = .ok (.ddiv, 1)) (hn : vf_n64 (FP.ddiv x y)) (kk : ch_J g f R E (pc + 1) ls (.inl (.double (FP.ddiv x y)) :: rest) mem k) : ch_J g f R E pc ls (.inl (.double y) :: .inl (.double x) :: rest) mem k :=
  ch_go (fun _ _ _ _ _ _ _ _ _ _ _ _ hF _ _ ho hs hL q => lv_ddiv hF.1 hF.2.1 hd hn (q (ch_ok1 (ch_ok0 (ch_ok0 hs))))) kk
theorem ch_dcmp {x y : UInt64} {op : CmpOp} (hd : decode (ch_bc f) pc = .ok (.dcmp op, 1)) (kk : ch_J g f R E (pc + 1) ls (.inl (.int (Op.cmpValue (FP.dcmp x y) op)) :: rest) mem k) : ch_J g f R E pc ls (.inl (.double y) :: .inl (.double x) :: rest) mem k :=
  ch_go (fun _ _ _ _ _ _ _ _ _ _ _ _ hF _ _ ho hs hL q => lv_dcmp hF.1 hF.2.1 hd (q (ch_ok1 (ch_ok0 (ch_ok0 hs))))) kk
theorem ch_lcmp {x y : Int64} (hd : decode (ch_bc f) pc = .ok (.lcmp, 1)) (kk : ch_J g f R E (pc + 1) ls (.inl (.int (lg_cmp x y)) :: rest) mem k) : ch_J g f R E pc ls (.inl (.long y) :: .inl (.long x) :: rest) mem k :=
  ch_go (fun _ _ _ _ _ _ _ _ _ _ _ _ hF _ _ ho hs hL q => W.lcmp hF.1 hF.2.1 hd (q (ch_ok1 (ch_ok0 (ch_ok0 hs))))) kk
theorem ch_goto {off : Int} {tgt : Nat} (hd : decode (ch_bc f) pc = .ok (.goto off, 3)) (ht : (pc : Int) + off = (tgt : Int)) (kk : ch_J g f R E tgt ls (rest) mem k) : ch_J g f R E pc ls (rest) mem k :=
  ch_go (fun _ _ _ _ _ _ _ _ _ _ _ _ hF _ _ ho hs hL q => lv_goto hF.1 hF.2.1 hd ht (q hs)) kk
theorem ch_if_eq {off : Int} {tgt : Nat} {x : Int32} (hd : decode (ch_bc f) pc = .ok (.ifCond .eq off, 3)) (ht : (pc : Int) + off = (tgt : Int)) (kt : x = 0 → ch_J g f R E tgt ls rest mem k) (kf : ¬ x = 0 → ch_J g f R E (pc + 3) ls rest mem k) : ch_J g f R E pc ls (.inl (.int x) :: rest) mem k :=
  fun p e s m args below meth c H locs lm hF hR hS ho hs hL => lv_if_eq hF.1 hF.2.1 hd ht (fun z => kt z p e s m args below meth c H locs lm hF hR hS ho (ch_ok0 hs) hL) (fun z => kf z p e s m args below meth c H locs lm hF hR hS ho (ch_ok0 hs) hL)
theorem ch_if_ne {off : Int} {tgt : Nat} {x : Int32} (hd : decode (ch_bc f) pc = .ok (.ifCond .ne off, 3)) (ht : (pc : Int) + off = (tgt : Int)) (kt : ¬ x = 0 → ch_J g f R E tgt ls rest mem k) (kf : x = 0 → ch_J g f R E (pc + 3) ls rest mem k) : ch_J g f R E pc ls (.inl (.int x) :: rest) mem k :=
  fun p e s m args below meth c H locs lm hF hR hS ho hs hL => lv_if_ne hF.1 hF.2.1 hd ht (fun z => kt z p e s m args below meth c H locs lm hF hR hS ho (ch_ok0 hs) hL) (fun z => kf z p e s m args below meth c H locs lm hF hR hS ho (ch_ok0 hs) hL)
theorem ch_if_lt {off : Int} {tgt : Nat} {x : Int32} (hd : decode (ch_bc f) pc = .ok (.ifCond .lt off, 3)) (ht : (pc : Int) + off = (tgt : Int)) (kt : x < 0 → ch_J g f R E tgt ls rest mem k) (kf : ¬ x < 0 → ch_J g f R E (pc + 3) ls rest mem k) : ch_J g f R E pc ls (.inl (.int x) :: rest) mem k :=
  fun p e s m args below meth c H locs lm hF hR hS ho hs hL => lv_if_lt hF.1 hF.2.1 hd ht (fun z => kt z p e s m args below meth c H locs lm hF hR hS ho (ch_ok0 hs) hL) (fun z => kf z p e s m args below meth c H locs lm hF hR hS ho (ch_ok0 hs) hL)
theorem ch_if_ge {off : Int} {tgt : Nat} {x : Int32} (hd : decode (ch_bc f) pc = .ok (.ifCond .ge off, 3)) (ht : (pc : Int) + off = (tgt : Int)) (kt : 0 ≤ x → ch_J g f R E tgt ls rest mem k) (kf : ¬ 0 ≤ x → ch_J g f R E (pc + 3) ls rest mem k) : ch_J g f R E pc ls (.inl (.int x) :: rest) mem k :=
  fun p e s m args below meth c H locs lm hF hR hS ho hs hL => lv_if_ge hF.1 hF.2.1 hd ht (fun z => kt z p e s m args below meth c H locs lm hF hR hS ho (ch_ok0 hs) hL) (fun z => kf z p e s m args below meth c H locs lm hF hR hS ho (ch_ok0 hs) hL)
theorem ch_if_gt {off : Int} {tgt : Nat} {x : Int32} (hd : decode (ch_bc f) pc = .ok (.ifCond .gt off, 3)) (ht : (pc : Int) + off = (tgt : Int)) (kt : 0 < x → ch_J g f R E tgt ls rest mem k) (kf : ¬ 0 < x → ch_J g f R E (pc + 3) ls rest mem k) : ch_J g f R E pc ls (.inl (.int x) :: rest) mem k :=
  fun p e s m args below meth c H locs lm hF hR hS ho hs hL => lv_if_gt hF.1 hF.2.1 hd ht (fun z => kt z p e s m args below meth c H locs lm hF hR hS ho (ch_ok0 hs) hL) (fun z => kf z p e s m args below meth c H locs lm hF hR hS ho (ch_ok0 hs) hL)
theorem ch_if_le {off : Int} {tgt : Nat} {x : Int32} (hd : decode (ch_bc f) pc = .ok (.ifCond .le off, 3)) (ht : (pc : Int) + off = (tgt : Int)) (kt : x ≤ 0 → ch_J g f R E tgt ls rest mem k) (kf : ¬ x ≤ 0 → ch_J g f R E (pc + 3) ls rest mem k) : ch_J g f R E pc ls (.inl (.int x) :: rest) mem k :=
  fun p e s m args below meth c H locs lm hF hR hS ho hs hL => lv_if_le hF.1 hF.2.1 hd ht (fun z => kt z p e s m args below meth c H locs lm hF hR hS ho (ch_ok0 hs) hL) (fun z => kf z p e s m args below meth c H locs lm hF hR hS ho (ch_ok0 hs) hL)
theorem ch_icmp_eq {off : Int} {tgt : Nat} {x y : Int32} (hd : decode (ch_bc f) pc = .ok (.if_icmp .eq off, 3)) (ht : (pc : Int) + off = (tgt : Int)) (kt : x = y → ch_J g f R E tgt ls rest mem k) (kf : ¬ x = y → ch_J g f R E (pc + 3) ls rest mem k) : ch_J g f R E pc ls (.inl (.int y) :: .inl (.int x) :: rest) mem k :=
  fun p e s m args below meth c H locs lm hF hR hS ho hs hL => lv_icmp_eq hF.1 hF.2.1 hd ht (fun z => kt z p e s m args below meth c H locs lm hF hR hS ho (ch_ok0 (ch_ok0 hs)) hL) (fun z => kf z p e s m args below meth c H locs lm hF hR hS ho (ch_ok0 (ch_ok0 hs)) hL)
theorem ch_icmp_ne {off : Int} {tgt : Nat} {x y : Int32} (hd : decode (ch_bc f) pc = .ok (.if_icmp .ne off, 3)) (ht : (pc : Int) + off = (tgt : Int)) (kt : ¬ x = y → ch_J g f R E tgt ls rest mem k) (kf : x = y → ch_J g f R E (pc + 3) ls rest mem k) : ch_J g f R E pc ls (.inl (.int y) :: .inl (.int x) :: rest) mem k :=
  fun p e s m args below meth c H locs lm hF hR hS ho hs hL => lv_icmp_ne hF.1 hF.2.1 hd ht (fun z => kt z p e s m args below meth c H locs lm hF hR hS ho (ch_ok0 (ch_ok0 hs)) hL) (fun z => kf z p e s m args below meth c H locs lm hF hR hS ho (ch_ok0 (ch_ok0 hs)) hL)
theorem ch_icmp_lt {off : Int} {tgt : Nat} {x y : Int32} (hd : decode (ch_bc f) pc = .ok (.if_icmp .lt off, 3)) (ht : (pc : Int) + off = (tgt : Int)) (kt : x < y → ch_J g f R E tgt ls rest mem k) (kf : ¬ x < y → ch_J g f R E (pc + 3) ls rest mem k) : ch_J g f R E pc ls (.inl (.int y) :: .inl (.int x) :: rest) mem k :=
  fun p e s m args below meth c H locs lm hF hR hS ho hs hL => lv_icmp_lt hF.1 hF.2.1 hd ht (fun z => kt z p e s m args below meth c H locs lm hF hR hS ho (ch_ok0 (ch_ok0 hs)) hL) (fun z => kf z p e s m args below meth c H locs lm hF hR hS ho (ch_ok0 (ch_ok0 hs)) hL)
theorem ch_icmp_ge {off : Int} {tgt : Nat} {x y : Int32} (hd : decode (ch_bc f) pc = .ok (.if_icmp .ge off, 3)) (ht : (pc : Int) + off = (tgt : Int)) (kt : y ≤ x → ch_J g f R E tgt ls rest mem k) (kf : ¬ y ≤ x → ch_J g f R E (pc + 3) ls rest mem k) : ch_J g f R E pc ls (.inl (.int y) :: .inl (.int x) :: rest) mem k :=
  fun p e s m args below meth c H locs lm hF hR hS ho hs hL => lv_icmp_ge hF.1 hF.2.1 hd ht (fun z => kt z p e s m args below meth c H locs lm hF hR hS ho (ch_ok0 (ch_ok0 hs)) hL) (fun z => kf z p e s m args below meth c H locs lm hF hR hS ho (ch_ok0 (ch_ok0 hs)) hL)
theorem ch_icmp_gt {off : Int} {tgt : Nat} {x y : Int32} (hd : decode (ch_bc f) pc = .ok (.if_icmp .gt off, 3)) (ht : (pc : Int) + off = (tgt : Int)) (kt : y < x → ch_J g f R E tgt ls rest mem k) (kf : ¬ y < x → ch_J g f R E (pc + 3) ls rest mem k) : ch_J g f R E pc ls (.inl (.int y) :: .inl (.int x) :: rest) mem k :=
  fun p e s m args below meth c H locs lm hF hR hS ho hs hL => lv_icmp_gt hF.1 hF.2.1 hd ht (fun z => kt z p e s m args below meth c H locs lm hF hR hS ho (ch_ok0 (ch_ok0 hs)) hL) (fun z => kf z p e s m args below meth c H locs lm hF hR hS ho (ch_ok0 (ch_ok0 hs)) hL)
theorem ch_icmp_le {off : Int} {tgt : Nat} {x y : Int32} (hd : decode (ch_bc f) pc = .ok (.if_icmp .le off, 3)) (ht : (pc : Int) + off = (tgt : Int)) (kt : x ≤ y → ch_J g f R E tgt ls rest mem k) (kf : ¬ x ≤ y → ch_J g f R E (pc + 3) ls rest mem k) : ch_J g f R E pc ls (.inl (.int y) :: .inl (.int x) :: rest) mem k :=
  fun p e s m args below meth c H locs lm hF hR hS ho hs hL => lv_icmp_le hF.1 hF.2.1 hd ht (fun z => kt z p e s m args below meth c H locs lm hF hR hS ho (ch_ok0 (ch_ok0 hs)) hL) (fun z => kf z p e s m args below meth c H locs lm hF hR hS ho (ch_ok0 (ch_ok0 hs)) hL)
theorem ch_tswOut {dflt lo hi : Int} {offs : Array Int} {len : Nat} {x : Int32} {tgt : Nat} (hd : decode (ch_bc f) pc = .ok (.tableswitch dflt lo hi offs, len)) (hx : x.toInt < lo ∨ hi < x.toInt) (ht : (pc : Int) + dflt = (tgt : Int)) (kk : ch_J g f R E tgt ls (rest) mem k) : ch_J g f R E pc ls (.inl (.int x) :: rest) mem k :=
  ch_go (fun _ _ _ _ _ _ _ _ _ _ _ _ hF _ _ ho hs hL q => lv_tableOut hF.1 hF.2.1 hd hx ht (q (ch_ok0 hs))) kk
theorem ch_tswIn {dflt lo hi : Int} {offs : Array Int} {len : Nat} {x : Int32} {off : Int} {tgt : Nat} (hd : decode (ch_bc f) pc = .ok (.tableswitch dflt lo hi offs, len)) (h1 : ¬ x.toInt < lo) (h2 : ¬ hi < x.toInt) (h3 : offs[(x.toInt - lo).toNat]? = some off) (ht : (pc : Int) + off = (tgt : Int)) (kk : ch_J g f R E tgt ls (rest) mem k) : ch_J g f R E pc ls (.inl (.int x) :: rest) mem k :=
  ch_go (fun _ _ _ _ _ _ _ _ _ _ _ _ hF _ _ ho hs hL q => lv_tableIn hF.1 hF.2.1 hd h1 h2 h3 ht (q (ch_ok0 hs))) kk
theorem ch_lsw {dflt : Int} {ps : Array (Int × Int)} {len : Nat} {x : Int32} {off : Int} {tgt : Nat} (hd : decode (ch_bc f) pc = .ok (.lookupswitch dflt ps, len)) (hp : (ps.toList.zip (ps.toList.drop 1)).all (fun (a, next) => a.1 < next.1) = true) (h3 : Op.lookupswitch.offset ps.toList dflt x.toInt = off) (ht : (pc : Int) + off = (tgt : Int)) (kk : ch_J g f R E tgt ls (rest) mem k) : ch_J g f R E pc ls (.inl (.int x) :: rest) mem k :=
  ch_go (fun _ _ _ _ _ _ _ _ _ _ _ _ hF _ _ ho hs hL q => lv_lookup hF.1 hF.2.1 hd hp h3 ht (q (ch_ok0 hs))) kk
theorem ch_ishr {x y : Int32} (hd : decode (ch_bc f) pc = .ok (.ishr, 1)) (kk : ch_J g f R E (pc + 1) ls (.inl (.int (x >>> (y &&& 31))) :: rest) mem k) : ch_J g f R E pc ls (.inl (.int y) :: .inl (.int x) :: rest) mem k :=
  ch_go (fun _ _ _ _ _ _ _ _ _ _ _ _ hF _ _ ho hs hL q => lv_ishr hF.1 hF.2.1 hd (q (ch_ok1 (ch_ok0 (ch_ok0 hs))))) kk
theorem ch_ineg {x : Int32} (hd : decode (ch_bc f) pc = .ok (.ineg, 1)) (kk : ch_J g f R E (pc + 1) ls (.inl (.int (-x)) :: rest) mem k) : ch_J g f R E pc ls (.inl (.int x) :: rest) mem k :=
  ch_go (fun _ _ _ _ _ _ _ _ _ _ _ _ hF _ _ ho hs hL q => lv_ineg hF.1 hF.2.1 hd (q (ch_ok1 (ch_ok0 hs)))) kk
theorem ch_i2b {x : Int32} (hd : decode (ch_bc f) pc = .ok (.i2b, 1)) (kk : ch_J g f R E (pc + 1) ls (.inl (.int x.toInt8.toInt32) :: rest) mem k) : ch_J g f R E pc ls (.inl (.int x) :: rest) mem k :=
  ch_go (fun _ _ _ _ _ _ _ _ _ _ _ _ hF _ _ ho hs hL q => lv_i2b hF.1 hF.2.1 hd rfl (q (ch_ok1 (ch_ok0 hs)))) kk
theorem ch_ladd {x y : Int64} (hd : decode (ch_bc f) pc = .ok (.ladd, 1)) (kk : ch_J g f R E (pc + 1) ls (.inl (.long (x + y)) :: rest) mem k) : ch_J g f R E pc ls (.inl (.long y) :: .inl (.long x) :: rest) mem k :=
  ch_go (fun _ _ _ _ _ _ _ _ _ _ _ _ hF _ _ ho hs hL q => lv_ladd hF.1 hF.2.1 hd (q (ch_ok1 (ch_ok0 (ch_ok0 hs))))) kk
theorem ch_lmul {x y : Int64} (hd : decode (ch_bc f) pc = .ok (.lmul, 1)) (kk : ch_J g f R E (pc + 1) ls (.inl (.long (x * y)) :: rest) mem k) : ch_J g f R E pc ls (.inl (.long y) :: .inl (.long x) :: rest) mem k :=
  ch_go (fun _ _ _ _ _ _ _ _ _ _ _ _ hF _ _ ho hs hL q => lv_lmul hF.1 hF.2.1 hd (q (ch_ok1 (ch_ok0 (ch_ok0 hs))))) kk
theorem ch_fcmp {x y : UInt32} {op : CmpOp} (hd : decode (ch_bc f) pc = .ok (.fcmp op, 1)) (kk : ch_J g f R E (pc + 1) ls (.inl (.int (Op.cmpValue (FP.fcmp x y) op)) :: rest) mem k) : ch_J g f R E pc ls (.inl (.float y) :: .inl (.float x) :: rest) mem k :=
  ch_go (fun _ _ _ _ _ _ _ _ _ _ _ _ hF _ _ ho hs hL q => lv_fcmp hF.1 hF.2.1 hd (q (ch_ok1 (ch_ok0 (ch_ok0 hs))))) kk
theorem ch_ldc2 {i : Nat} {v : Int64} (hd : decode (ch_bc f) pc = .ok (.ldc2_w i, 3)) (hw : Cond.constantLong (ch_nm f).cls i v ∈ ch_good) (kk : ch_J g f R E (pc + 3) ls (.inl (.long v) :: rest) mem k) : ch_J g f R E pc ls (rest) mem k :=
  ch_go (fun _ _ _ _ _ _ _ _ _ _ _ _ hF _ _ ho hs hL q => lv_ldc2 hF.1 hF.2.1 hF.2.2.2.2.1 (hF.2.2.2.2.2.1 _ hw) hd (q (ch_ok1 hs))) kk
theorem ch_ldc2d {i : Nat} {v : UInt64} (hd : decode (ch_bc f) pc = .ok (.ldc2_w i, 3)) (hw : Cond.constantDouble (ch_nm f).cls i v ∈ ch_good) (kk : ch_J g f R E (pc + 3) ls (.inl (.double v) :: rest) mem k) : ch_J g f R E pc ls (rest) mem k :=
  ch_go (fun _ _ _ _ _ _ _ _ _ _ _ _ hF _ _ ho hs hL q => lv_ldc2d hF.1 hF.2.1 hF.2.2.2.2.1 (hF.2.2.2.2.2.1 _ hw) hd (q (ch_ok1 hs))) kk
theorem ch_ldc_w {i : Nat} {v : Int32} (hd : decode (ch_bc f) pc = .ok (.ldc_w i, 3)) (hw : Cond.constant (ch_nm f).cls i v ∈ ch_good) (kk : ch_J g f R E (pc + 3) ls (.inl (.int v) :: rest) mem k) : ch_J g f R E pc ls (rest) mem k :=
  ch_go (fun _ _ _ _ _ _ _ _ _ _ _ _ hF _ _ ho hs hL q => lv_ldcw hF.1 hF.2.1 hF.2.2.2.2.1 (hF.2.2.2.2.2.1 _ hw) hd (q (ch_ok1 hs))) kk
theorem ch_lload_n {i : Nat} {n : Fin 4} {x : Int64} (hd : decode (ch_bc f) pc = .ok (.lload_n n, 1)) (hi : (n : Nat) = i) (hl : ls[i]? = some (some (.inl (.long x)))) (kk : ch_J g f R E (pc + 1) ls (.inl (.long x) :: rest) mem k) : ch_J g f R E pc ls (rest) mem k :=
  ch_go (fun _ _ _ _ _ _ _ _ _ _ _ _ hF _ _ ho hs hL q => lv_lload_n hF.1 hF.2.1 hd hi (hL.2.2 _ _ hl) (q (ch_ok1 hs))) kk
theorem ch_lload {i : Nat} {x : Int64} (hd : decode (ch_bc f) pc = .ok (.lload i, 2)) (hl : ls[i]? = some (some (.inl (.long x)))) (kk : ch_J g f R E (pc + 2) ls (.inl (.long x) :: rest) mem k) : ch_J g f R E pc ls (rest) mem k :=
  ch_go (fun _ _ _ _ _ _ _ _ _ _ _ _ hF _ _ ho hs hL q => lv_lload hF.1 hF.2.1 hd (hL.2.2 _ _ hl) (q (ch_ok1 hs))) kk
theorem ch_dload_n {i : Nat} {n : Fin 4} {x : UInt64} (hd : decode (ch_bc f) pc = .ok (.dload_n n, 1)) (hi : (n : Nat) = i) (hl : ls[i]? = some (some (.inl (.double x)))) (kk : ch_J g f R E (pc + 1) ls (.inl (.double x) :: rest) mem k) : ch_J g f R E pc ls (rest) mem k :=
  ch_go (fun _ _ _ _ _ _ _ _ _ _ _ _ hF _ _ ho hs hL q => lv_dload_n hF.1 hF.2.1 hd hi (hL.2.2 _ _ hl) (q (ch_ok1 hs))) kk
theorem ch_fload_n {i : Nat} {n : Fin 4} {x : UInt32} (hd : decode (ch_bc f) pc = .ok (.fload_n n, 1)) (hi : (n : Nat) = i) (hl : ls[i]? = some (some (.inl (.float x)))) (kk : ch_J g f R E (pc + 1) ls (.inl (.float x) :: rest) mem k) : ch_J g f R E pc ls (rest) mem k :=
  ch_go (fun _ _ _ _ _ _ _ _ _ _ _ _ hF _ _ ho hs hL q => lv_fload_n hF.1 hF.2.1 hd hi (hL.2.2 _ _ hl) (q (ch_ok1 hs))) kk
theorem ch_null (hd : decode (ch_bc f) pc = .ok (.aconst_null, 1)) (kk : ch_J g f R E (pc + 1) ls (.inl .null :: rest) mem k) : ch_J g f R E pc ls (rest) mem k :=
  ch_go (fun _ _ _ _ _ _ _ _ _ _ _ _ hF _ _ ho hs hL q => lv_null hF.1 hF.2.1 hd (q (ch_ok1 hs))) kk
theorem ch_ifnonnull {off : Int} {tgt : Nat} {a : ch_Ad} (hd : decode (ch_bc f) pc = .ok (.ifnonnull off, 3)) (ht : (pc : Int) + off = (tgt : Int)) (kk : ch_J g f R E tgt ls (rest) mem k) : ch_J g f R E pc ls (.inr a :: rest) mem k :=
  ch_go (fun _ _ _ _ _ _ _ _ _ _ _ _ hF _ _ ho hs hL q => lv_ifnonnull hF.1 hF.2.1 hd ht (q (ch_ok0 hs))) kk
end CHR
