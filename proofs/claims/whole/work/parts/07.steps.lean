def iMax (x y : Int32) : Int32 := if x < y then y else x
def iMin (x y : Int32) : Int32 := if y < x then y else x
def iAbs (x : Int32) : Int32 := if 0 ≤ x then x else 0 - x
/-- a truth value as an int -/
def bI (b : Bool) : Int32 := if b then 1 else 0
theorem bI_t : bI true = 1 := rfl
theorem bI_f : bI false = 0 := rfl
theorem bI_0 {b : Bool} : bI b = 0 ↔ b = false := by cases b <;> decide
theorem bI_nz (b : Bool) : narrow .boolean (.int (bI b)) = .int (bI b) := by cases b <;> rfl
section STEPS
variable {p : Program} {l : Launch} {e : Env} {R : Room} {s : State} {m : MethodId} {args : Array Value} {below : List Frame} {meth : Method} {c : Code} {cc : ByteArray} {nL : Nat} {own : String} {g : Gl} {ω0 : Wd} {sz0 : Nat} {Q : State → Prop} {ω : Wd} {k n pc pc' : Nat} {L : List (Nat × Value)} {rest : List Value}
theorem s_iconst (hC : Cx p l e R s m args below meth c cc nL own g ω0 sz0) {n9 : Int} {v : Int32} (hdg : decode cc pc = .ok (.iconst n9, 1)) (hp : pc + 1 = pc') (hv : Int32.ofInt n9 = v) (kk : WP p l e R s m args below meth c g ω0 sz0 Q nL ω k n pc' L (.int v :: rest)) : WP p l e R s m args below meth c g ω0 sz0 Q nL ω k n pc L (rest) := fun H locs ls hw hk hS hl => by
  subst hp
  exact lv_iconst hC.1 hC.2.1 hdg hv (kk H locs ls hw hk hS hl)
theorem s_bipush (hC : Cx p l e R s m args below meth c cc nL own g ω0 sz0) {n9 : Int} {v : Int32} (hdg : decode cc pc = .ok (.bipush n9, 2)) (hp : pc + 2 = pc') (hv : (Int8.ofInt n9).toInt32 = v) (kk : WP p l e R s m args below meth c g ω0 sz0 Q nL ω k n pc' L (.int v :: rest)) : WP p l e R s m args below meth c g ω0 sz0 Q nL ω k n pc L (rest) := fun H locs ls hw hk hS hl => by
  subst hp
  exact lv_bipush hC.1 hC.2.1 hdg hv (kk H locs ls hw hk hS hl)
theorem s_sipush (hC : Cx p l e R s m args below meth c cc nL own g ω0 sz0) {n9 : Int} {v : Int32} (hdg : decode cc pc = .ok (.sipush n9, 3)) (hp : pc + 3 = pc') (hv : (Int16.ofInt n9).toInt32 = v) (kk : WP p l e R s m args below meth c g ω0 sz0 Q nL ω k n pc' L (.int v :: rest)) : WP p l e R s m args below meth c g ω0 sz0 Q nL ω k n pc L (rest) := fun H locs ls hw hk hS hl => by
  subst hp
  exact lv_sipush hC.1 hC.2.1 hdg hv (kk H locs ls hw hk hS hl)
theorem s_lconst (hC : Cx p l e R s m args below meth c cc nL own g ω0 sz0) {n9 : Fin 2} {v : Int64} (hdg : decode cc pc = .ok (.lconst n9, 1)) (hp : pc + 1 = pc') (hv : Int64.ofNat (n9 : Nat) = v) (kk : WP p l e R s m args below meth c g ω0 sz0 Q nL ω k n pc' L (.long v :: rest)) : WP p l e R s m args below meth c g ω0 sz0 Q nL ω k n pc L (rest) := fun H locs ls hw hk hS hl => by
  subst hp
  exact lv_lconst hC.1 hC.2.1 hdg hv (kk H locs ls hw hk hS hl)
theorem s_fconst0 (hC : Cx p l e R s m args below meth c cc nL own g ω0 sz0) (hdg : decode cc pc = .ok (.fconst 0, 1)) (hp : pc + 1 = pc') (kk : WP p l e R s m args below meth c g ω0 sz0 Q nL ω k n pc' L (.float FP.fconst0 :: rest)) : WP p l e R s m args below meth c g ω0 sz0 Q nL ω k n pc L (rest) := fun H locs ls hw hk hS hl => by
  subst hp
  exact lv_fconst0 hC.1 hC.2.1 hdg (kk H locs ls hw hk hS hl)
theorem s_dconst0 (hC : Cx p l e R s m args below meth c cc nL own g ω0 sz0) (hdg : decode cc pc = .ok (.dconst 0, 1)) (hp : pc + 1 = pc') (kk : WP p l e R s m args below meth c g ω0 sz0 Q nL ω k n pc' L (.double FP.dconst0 :: rest)) : WP p l e R s m args below meth c g ω0 sz0 Q nL ω k n pc L (rest) := fun H locs ls hw hk hS hl => by
  subst hp
  exact lv_dconst0 hC.1 hC.2.1 hdg (kk H locs ls hw hk hS hl)
theorem s_iadd (hC : Cx p l e R s m args below meth c cc nL own g ω0 sz0) {x y : Int32} (hdg : decode cc pc = .ok (.iadd, 1)) (hp : pc + 1 = pc') (kk : WP p l e R s m args below meth c g ω0 sz0 Q nL ω k n pc' L (.int (x + y) :: rest)) : WP p l e R s m args below meth c g ω0 sz0 Q nL ω k n pc L (.int y :: .int x :: rest) := fun H locs ls hw hk hS hl => by
  subst hp
  exact lv_iadd hC.1 hC.2.1 hdg (kk H locs ls hw hk hS hl)
theorem s_isub (hC : Cx p l e R s m args below meth c cc nL own g ω0 sz0) {x y : Int32} (hdg : decode cc pc = .ok (.isub, 1)) (hp : pc + 1 = pc') (kk : WP p l e R s m args below meth c g ω0 sz0 Q nL ω k n pc' L (.int (x - y) :: rest)) : WP p l e R s m args below meth c g ω0 sz0 Q nL ω k n pc L (.int y :: .int x :: rest) := fun H locs ls hw hk hS hl => by
  subst hp
  exact lv_isub hC.1 hC.2.1 hdg (kk H locs ls hw hk hS hl)
theorem s_imul (hC : Cx p l e R s m args below meth c cc nL own g ω0 sz0) {x y : Int32} (hdg : decode cc pc = .ok (.imul, 1)) (hp : pc + 1 = pc') (kk : WP p l e R s m args below meth c g ω0 sz0 Q nL ω k n pc' L (.int (x * y) :: rest)) : WP p l e R s m args below meth c g ω0 sz0 Q nL ω k n pc L (.int y :: .int x :: rest) := fun H locs ls hw hk hS hl => by
  subst hp
  exact lv_imul hC.1 hC.2.1 hdg (kk H locs ls hw hk hS hl)
theorem s_idiv (hC : Cx p l e R s m args below meth c cc nL own g ω0 sz0) {x y : Int32} (hdg : decode cc pc = .ok (.idiv, 1)) (hp : pc + 1 = pc') (hne : ¬ y = 0) (kk : WP p l e R s m args below meth c g ω0 sz0 Q nL ω k n pc' L (.int (x / y) :: rest)) : WP p l e R s m args below meth c g ω0 sz0 Q nL ω k n pc L (.int y :: .int x :: rest) := fun H locs ls hw hk hS hl => by
  subst hp
  exact lv_idiv hC.1 hC.2.1 hdg hne (kk H locs ls hw hk hS hl)
theorem s_irem (hC : Cx p l e R s m args below meth c cc nL own g ω0 sz0) {x y : Int32} (hdg : decode cc pc = .ok (.irem, 1)) (hp : pc + 1 = pc') (hne : ¬ y = 0) (kk : WP p l e R s m args below meth c g ω0 sz0 Q nL ω k n pc' L (.int (x - x / y * y) :: rest)) : WP p l e R s m args below meth c g ω0 sz0 Q nL ω k n pc L (.int y :: .int x :: rest) := fun H locs ls hw hk hS hl => by
  subst hp
  exact lv_irem hC.1 hC.2.1 hdg hne (kk H locs ls hw hk hS hl)
theorem s_ineg (hC : Cx p l e R s m args below meth c cc nL own g ω0 sz0) {x : Int32} (hdg : decode cc pc = .ok (.ineg, 1)) (hp : pc + 1 = pc') (kk : WP p l e R s m args below meth c g ω0 sz0 Q nL ω k n pc' L (.int (-x) :: rest)) : WP p l e R s m args below meth c g ω0 sz0 Q nL ω k n pc L (.int x :: rest) := fun H locs ls hw hk hS hl => by
  subst hp
  exact lv_ineg hC.1 hC.2.1 hdg (kk H locs ls hw hk hS hl)
theorem s_iand (hC : Cx p l e R s m args below meth c cc nL own g ω0 sz0) {x y : Int32} (hdg : decode cc pc = .ok (.iand, 1)) (hp : pc + 1 = pc') (kk : WP p l e R s m args below meth c g ω0 sz0 Q nL ω k n pc' L (.int (x &&& y) :: rest)) : WP p l e R s m args below meth c g ω0 sz0 Q nL ω k n pc L (.int y :: .int x :: rest) := fun H locs ls hw hk hS hl => by
  subst hp
  exact lv_iand hC.1 hC.2.1 hdg (kk H locs ls hw hk hS hl)
theorem s_ishl (hC : Cx p l e R s m args below meth c cc nL own g ω0 sz0) {x y : Int32} (hdg : decode cc pc = .ok (.ishl, 1)) (hp : pc + 1 = pc') (kk : WP p l e R s m args below meth c g ω0 sz0 Q nL ω k n pc' L (.int (x <<< (y &&& 31)) :: rest)) : WP p l e R s m args below meth c g ω0 sz0 Q nL ω k n pc L (.int y :: .int x :: rest) := fun H locs ls hw hk hS hl => by
  subst hp
  exact lv_ishl hC.1 hC.2.1 hdg (kk H locs ls hw hk hS hl)
theorem s_ishr (hC : Cx p l e R s m args below meth c cc nL own g ω0 sz0) {x y : Int32} (hdg : decode cc pc = .ok (.ishr, 1)) (hp : pc + 1 = pc') (kk : WP p l e R s m args below meth c g ω0 sz0 Q nL ω k n pc' L (.int (x >>> (y &&& 31)) :: rest)) : WP p l e R s m args below meth c g ω0 sz0 Q nL ω k n pc L (.int y :: .int x :: rest) := fun H locs ls hw hk hS hl => by
  subst hp
  exact lv_ishr hC.1 hC.2.1 hdg (kk H locs ls hw hk hS hl)
theorem s_iushr (hC : Cx p l e R s m args below meth c cc nL own g ω0 sz0) {x y v : Int32} (hdg : decode cc pc = .ok (.iushr, 1)) (hp : pc + 1 = pc') (hv : (x.toUInt32 >>> (y.toUInt32 &&& Int32.toUInt32 31)).toInt32 = v) (kk : WP p l e R s m args below meth c g ω0 sz0 Q nL ω k n pc' L (.int v :: rest)) : WP p l e R s m args below meth c g ω0 sz0 Q nL ω k n pc L (.int y :: .int x :: rest) := fun H locs ls hw hk hS hl => by
  subst hp
  exact lv_iushr hC.1 hC.2.1 hdg hv (kk H locs ls hw hk hS hl)
theorem s_i2l (hC : Cx p l e R s m args below meth c cc nL own g ω0 sz0) {x : Int32} {v : Int64} (hdg : decode cc pc = .ok (.i2l, 1)) (hp : pc + 1 = pc') (hv : x.toInt64 = v) (kk : WP p l e R s m args below meth c g ω0 sz0 Q nL ω k n pc' L (.long v :: rest)) : WP p l e R s m args below meth c g ω0 sz0 Q nL ω k n pc L (.int x :: rest) := fun H locs ls hw hk hS hl => by
  subst hp
  exact lv_i2l hC.1 hC.2.1 hdg hv (kk H locs ls hw hk hS hl)
theorem s_i2c (hC : Cx p l e R s m args below meth c cc nL own g ω0 sz0) {x : Int32} {v : Int32} (hdg : decode cc pc = .ok (.i2c, 1)) (hp : pc + 1 = pc') (hv : (x.toUInt32 % 65536).toInt32 = v) (kk : WP p l e R s m args below meth c g ω0 sz0 Q nL ω k n pc' L (.int v :: rest)) : WP p l e R s m args below meth c g ω0 sz0 Q nL ω k n pc L (.int x :: rest) := fun H locs ls hw hk hS hl => by
  subst hp
  exact lv_i2c hC.1 hC.2.1 hdg hv (kk H locs ls hw hk hS hl)
theorem s_i2b (hC : Cx p l e R s m args below meth c cc nL own g ω0 sz0) {x : Int32} {v : Int32} (hdg : decode cc pc = .ok (.i2b, 1)) (hp : pc + 1 = pc') (hv : x.toInt8.toInt32 = v) (kk : WP p l e R s m args below meth c g ω0 sz0 Q nL ω k n pc' L (.int v :: rest)) : WP p l e R s m args below meth c g ω0 sz0 Q nL ω k n pc L (.int x :: rest) := fun H locs ls hw hk hS hl => by
  subst hp
  exact lv_i2b hC.1 hC.2.1 hdg hv (kk H locs ls hw hk hS hl)
theorem s_i2f (hC : Cx p l e R s m args below meth c cc nL own g ω0 sz0) {x : Int32} (hdg : decode cc pc = .ok (.i2f, 1)) (hp : pc + 1 = pc') (kk : WP p l e R s m args below meth c g ω0 sz0 Q nL ω k n pc' L (.float (FP.i2f x) :: rest)) : WP p l e R s m args below meth c g ω0 sz0 Q nL ω k n pc L (.int x :: rest) := fun H locs ls hw hk hS hl => by
  subst hp
  exact lv_i2f hC.1 hC.2.1 hdg (kk H locs ls hw hk hS hl)
theorem s_i2d (hC : Cx p l e R s m args below meth c cc nL own g ω0 sz0) {x : Int32} (hdg : decode cc pc = .ok (.i2d, 1)) (hp : pc + 1 = pc') (kk : WP p l e R s m args below meth c g ω0 sz0 Q nL ω k n pc' L (.double (FP.i2d x) :: rest)) : WP p l e R s m args below meth c g ω0 sz0 Q nL ω k n pc L (.int x :: rest) := fun H locs ls hw hk hS hl => by
  subst hp
  exact lv_i2d hC.1 hC.2.1 hdg (kk H locs ls hw hk hS hl)
theorem s_f2d (hC : Cx p l e R s m args below meth c cc nL own g ω0 sz0) {x : UInt32} (hdg : decode cc pc = .ok (.f2d, 1)) (hp : pc + 1 = pc') (hne : vf_n64 (FP.f2d x)) (kk : WP p l e R s m args below meth c g ω0 sz0 Q nL ω k n pc' L (.double (FP.f2d x) :: rest)) : WP p l e R s m args below meth c g ω0 sz0 Q nL ω k n pc L (.float x :: rest) := fun H locs ls hw hk hS hl => by
  subst hp
  exact lv_f2d hC.1 hC.2.1 hdg hne (kk H locs ls hw hk hS hl)
theorem s_ladd (hC : Cx p l e R s m args below meth c cc nL own g ω0 sz0) {x y : Int64} (hdg : decode cc pc = .ok (.ladd, 1)) (hp : pc + 1 = pc') (kk : WP p l e R s m args below meth c g ω0 sz0 Q nL ω k n pc' L (.long (x + y) :: rest)) : WP p l e R s m args below meth c g ω0 sz0 Q nL ω k n pc L (.long y :: .long x :: rest) := fun H locs ls hw hk hS hl => by
  subst hp
  exact lv_ladd hC.1 hC.2.1 hdg (kk H locs ls hw hk hS hl)
theorem s_lsub (hC : Cx p l e R s m args below meth c cc nL own g ω0 sz0) {x y : Int64} (hdg : decode cc pc = .ok (.lsub, 1)) (hp : pc + 1 = pc') (kk : WP p l e R s m args below meth c g ω0 sz0 Q nL ω k n pc' L (.long (x - y) :: rest)) : WP p l e R s m args below meth c g ω0 sz0 Q nL ω k n pc L (.long y :: .long x :: rest) := fun H locs ls hw hk hS hl => by
  subst hp
  exact lv_lsub hC.1 hC.2.1 hdg (kk H locs ls hw hk hS hl)
theorem s_lmul (hC : Cx p l e R s m args below meth c cc nL own g ω0 sz0) {x y : Int64} (hdg : decode cc pc = .ok (.lmul, 1)) (hp : pc + 1 = pc') (kk : WP p l e R s m args below meth c g ω0 sz0 Q nL ω k n pc' L (.long (x * y) :: rest)) : WP p l e R s m args below meth c g ω0 sz0 Q nL ω k n pc L (.long y :: .long x :: rest) := fun H locs ls hw hk hS hl => by
  subst hp
  exact lv_lmul hC.1 hC.2.1 hdg (kk H locs ls hw hk hS hl)
theorem s_lcmp (hC : Cx p l e R s m args below meth c cc nL own g ω0 sz0) {x y : Int64} (hdg : decode cc pc = .ok (.lcmp, 1)) (hp : pc + 1 = pc') (kk : WP p l e R s m args below meth c g ω0 sz0 Q nL ω k n pc' L (.int (lg_cmp x y) :: rest)) : WP p l e R s m args below meth c g ω0 sz0 Q nL ω k n pc L (.long y :: .long x :: rest) := fun H locs ls hw hk hS hl => by
  subst hp
  exact W.lcmp hC.1 hC.2.1 hdg (kk H locs ls hw hk hS hl)
theorem s_fdiv (hC : Cx p l e R s m args below meth c cc nL own g ω0 sz0) {x y : UInt32} (hdg : decode cc pc = .ok (.fdiv, 1)) (hp : pc + 1 = pc') (hne : vf_n32 (FP.fdiv x y)) (kk : WP p l e R s m args below meth c g ω0 sz0 Q nL ω k n pc' L (.float (FP.fdiv x y) :: rest)) : WP p l e R s m args below meth c g ω0 sz0 Q nL ω k n pc L (.float y :: .float x :: rest) := fun H locs ls hw hk hS hl => by
  subst hp
  exact lv_fdiv hC.1 hC.2.1 hdg hne (kk H locs ls hw hk hS hl)
theorem s_ddiv (hC : Cx p l e R s m args below meth c cc nL own g ω0 sz0) {x y : UInt64} (hdg : decode cc pc = .ok (.ddiv, 1)) (hp : pc + 1 = pc') (hne : vf_n64 (FP.ddiv x y)) (kk : WP p l e R s m args below meth c g ω0 sz0 Q nL ω k n pc' L (.double (FP.ddiv x y) :: rest)) : WP p l e R s m args below meth c g ω0 sz0 Q nL ω k n pc L (.double y :: .double x :: rest) := fun H locs ls hw hk hS hl => by
  subst hp
  exact lv_ddiv hC.1 hC.2.1 hdg hne (kk H locs ls hw hk hS hl)
theorem s_fcmp (hC : Cx p l e R s m args below meth c cc nL own g ω0 sz0) {x y : UInt32} {op : CmpOp} (hdg : decode cc pc = .ok (.fcmp op, 1)) (hp : pc + 1 = pc') (kk : WP p l e R s m args below meth c g ω0 sz0 Q nL ω k n pc' L (.int (Op.cmpValue (FP.fcmp x y) op) :: rest)) : WP p l e R s m args below meth c g ω0 sz0 Q nL ω k n pc L (.float y :: .float x :: rest) := fun H locs ls hw hk hS hl => by
  subst hp
  exact lv_fcmp hC.1 hC.2.1 hdg (kk H locs ls hw hk hS hl)
theorem s_dcmp (hC : Cx p l e R s m args below meth c cc nL own g ω0 sz0) {x y : UInt64} {op : CmpOp} (hdg : decode cc pc = .ok (.dcmp op, 1)) (hp : pc + 1 = pc') (kk : WP p l e R s m args below meth c g ω0 sz0 Q nL ω k n pc' L (.int (Op.cmpValue (FP.dcmp x y) op) :: rest)) : WP p l e R s m args below meth c g ω0 sz0 Q nL ω k n pc L (.double y :: .double x :: rest) := fun H locs ls hw hk hS hl => by
  subst hp
  exact lv_dcmp hC.1 hC.2.1 hdg (kk H locs ls hw hk hS hl)
theorem s_dup (hC : Cx p l e R s m args below meth c cc nL own g ω0 sz0) {va : Value} (hdg : decode cc pc = .ok (.dup, 1)) (hp : pc + 1 = pc') (hva : va.category = 1) (kk : WP p l e R s m args below meth c g ω0 sz0 Q nL ω k n pc' L (va :: va :: rest)) : WP p l e R s m args below meth c g ω0 sz0 Q nL ω k n pc L (va :: rest) := fun H locs ls hw hk hS hl => by
  subst hp
  exact lv_dup hC.1 hC.2.1 hdg hva (kk H locs ls hw hk hS hl)
theorem s_dup_x1 (hC : Cx p l e R s m args below meth c cc nL own g ω0 sz0) {va vb : Value} (hdg : decode cc pc = .ok (.dup_x1, 1)) (hp : pc + 1 = pc') (hva : va.category = 1) (hvb : vb.category = 1) (kk : WP p l e R s m args below meth c g ω0 sz0 Q nL ω k n pc' L (va :: vb :: va :: rest)) : WP p l e R s m args below meth c g ω0 sz0 Q nL ω k n pc L (va :: vb :: rest) := fun H locs ls hw hk hS hl => by
  subst hp
  exact lv_dup_x1 hC.1 hC.2.1 hdg hva hvb (kk H locs ls hw hk hS hl)
theorem s_dup2_11 (hC : Cx p l e R s m args below meth c cc nL own g ω0 sz0) {va vb : Value} (hdg : decode cc pc = .ok (.dup2, 1)) (hp : pc + 1 = pc') (hva : va.category = 1) (hvb : vb.category = 1) (kk : WP p l e R s m args below meth c g ω0 sz0 Q nL ω k n pc' L (va :: vb :: va :: vb :: rest)) : WP p l e R s m args below meth c g ω0 sz0 Q nL ω k n pc L (va :: vb :: rest) := fun H locs ls hw hk hS hl => by
  subst hp
  exact lv_dup2_11 hC.1 hC.2.1 hdg hva hvb (kk H locs ls hw hk hS hl)
theorem s_pop (hC : Cx p l e R s m args below meth c cc nL own g ω0 sz0) {va : Value} (hdg : decode cc pc = .ok (.pop, 1)) (hp : pc + 1 = pc') (hva : va.category = 1) (kk : WP p l e R s m args below meth c g ω0 sz0 Q nL ω k n pc' L (rest)) : WP p l e R s m args below meth c g ω0 sz0 Q nL ω k n pc L (va :: rest) := fun H locs ls hw hk hS hl => by
  subst hp
  exact lv_pop hC.1 hC.2.1 hdg hva (kk H locs ls hw hk hS hl)
theorem s_null (hC : Cx p l e R s m args below meth c cc nL own g ω0 sz0) (hdg : decode cc pc = .ok (.aconst_null, 1)) (hp : pc + 1 = pc') (kk : WP p l e R s m args below meth c g ω0 sz0 Q nL ω k n pc' L (.null :: rest)) : WP p l e R s m args below meth c g ω0 sz0 Q nL ω k n pc L (rest) := fun H locs ls hw hk hS hl => by
  subst hp
  exact lv_null hC.1 hC.2.1 hdg (kk H locs ls hw hk hS hl)
theorem s_if_eq (hC : Cx p l e R s m args below meth c cc nL own g ω0 sz0) {x : Int32} {off : Int} {tgt : Nat} (hdg : decode cc pc = .ok (.ifCond .eq off, 3)) (hp : pc + 3 = pc') (ht : (pc : Int) + off = (tgt : Int)) (kt : x = 0 → WP p l e R s m args below meth c g ω0 sz0 Q nL ω k n tgt L rest) (kf : ¬ x = 0 → WP p l e R s m args below meth c g ω0 sz0 Q nL ω k n pc' L rest) : WP p l e R s m args below meth c g ω0 sz0 Q nL ω k n pc L (.int x :: rest) := fun H locs ls hw hk hS hl => by
  subst hp
  exact lv_if_eq hC.1 hC.2.1 hdg ht (fun c9 => kt c9 H locs ls hw hk hS hl) (fun c9 => kf c9 H locs ls hw hk hS hl)
theorem s_if_ne (hC : Cx p l e R s m args below meth c cc nL own g ω0 sz0) {x : Int32} {off : Int} {tgt : Nat} (hdg : decode cc pc = .ok (.ifCond .ne off, 3)) (hp : pc + 3 = pc') (ht : (pc : Int) + off = (tgt : Int)) (kt : ¬ x = 0 → WP p l e R s m args below meth c g ω0 sz0 Q nL ω k n tgt L rest) (kf : x = 0 → WP p l e R s m args below meth c g ω0 sz0 Q nL ω k n pc' L rest) : WP p l e R s m args below meth c g ω0 sz0 Q nL ω k n pc L (.int x :: rest) := fun H locs ls hw hk hS hl => by
  subst hp
  exact lv_if_ne hC.1 hC.2.1 hdg ht (fun c9 => kt c9 H locs ls hw hk hS hl) (fun c9 => kf c9 H locs ls hw hk hS hl)
theorem s_if_lt (hC : Cx p l e R s m args below meth c cc nL own g ω0 sz0) {x : Int32} {off : Int} {tgt : Nat} (hdg : decode cc pc = .ok (.ifCond .lt off, 3)) (hp : pc + 3 = pc') (ht : (pc : Int) + off = (tgt : Int)) (kt : x < 0 → WP p l e R s m args below meth c g ω0 sz0 Q nL ω k n tgt L rest) (kf : ¬ x < 0 → WP p l e R s m args below meth c g ω0 sz0 Q nL ω k n pc' L rest) : WP p l e R s m args below meth c g ω0 sz0 Q nL ω k n pc L (.int x :: rest) := fun H locs ls hw hk hS hl => by
  subst hp
  exact lv_if_lt hC.1 hC.2.1 hdg ht (fun c9 => kt c9 H locs ls hw hk hS hl) (fun c9 => kf c9 H locs ls hw hk hS hl)
theorem s_if_ge (hC : Cx p l e R s m args below meth c cc nL own g ω0 sz0) {x : Int32} {off : Int} {tgt : Nat} (hdg : decode cc pc = .ok (.ifCond .ge off, 3)) (hp : pc + 3 = pc') (ht : (pc : Int) + off = (tgt : Int)) (kt : 0 ≤ x → WP p l e R s m args below meth c g ω0 sz0 Q nL ω k n tgt L rest) (kf : ¬ 0 ≤ x → WP p l e R s m args below meth c g ω0 sz0 Q nL ω k n pc' L rest) : WP p l e R s m args below meth c g ω0 sz0 Q nL ω k n pc L (.int x :: rest) := fun H locs ls hw hk hS hl => by
  subst hp
  exact lv_if_ge hC.1 hC.2.1 hdg ht (fun c9 => kt c9 H locs ls hw hk hS hl) (fun c9 => kf c9 H locs ls hw hk hS hl)
theorem s_if_gt (hC : Cx p l e R s m args below meth c cc nL own g ω0 sz0) {x : Int32} {off : Int} {tgt : Nat} (hdg : decode cc pc = .ok (.ifCond .gt off, 3)) (hp : pc + 3 = pc') (ht : (pc : Int) + off = (tgt : Int)) (kt : 0 < x → WP p l e R s m args below meth c g ω0 sz0 Q nL ω k n tgt L rest) (kf : ¬ 0 < x → WP p l e R s m args below meth c g ω0 sz0 Q nL ω k n pc' L rest) : WP p l e R s m args below meth c g ω0 sz0 Q nL ω k n pc L (.int x :: rest) := fun H locs ls hw hk hS hl => by
  subst hp
  exact lv_if_gt hC.1 hC.2.1 hdg ht (fun c9 => kt c9 H locs ls hw hk hS hl) (fun c9 => kf c9 H locs ls hw hk hS hl)
theorem s_if_le (hC : Cx p l e R s m args below meth c cc nL own g ω0 sz0) {x : Int32} {off : Int} {tgt : Nat} (hdg : decode cc pc = .ok (.ifCond .le off, 3)) (hp : pc + 3 = pc') (ht : (pc : Int) + off = (tgt : Int)) (kt : x ≤ 0 → WP p l e R s m args below meth c g ω0 sz0 Q nL ω k n tgt L rest) (kf : ¬ x ≤ 0 → WP p l e R s m args below meth c g ω0 sz0 Q nL ω k n pc' L rest) : WP p l e R s m args below meth c g ω0 sz0 Q nL ω k n pc L (.int x :: rest) := fun H locs ls hw hk hS hl => by
  subst hp
  exact lv_if_le hC.1 hC.2.1 hdg ht (fun c9 => kt c9 H locs ls hw hk hS hl) (fun c9 => kf c9 H locs ls hw hk hS hl)
theorem s_icmp_eq (hC : Cx p l e R s m args below meth c cc nL own g ω0 sz0) {x y : Int32} {off : Int} {tgt : Nat} (hdg : decode cc pc = .ok (.if_icmp .eq off, 3)) (hp : pc + 3 = pc') (ht : (pc : Int) + off = (tgt : Int)) (kt : x = y → WP p l e R s m args below meth c g ω0 sz0 Q nL ω k n tgt L rest) (kf : ¬ x = y → WP p l e R s m args below meth c g ω0 sz0 Q nL ω k n pc' L rest) : WP p l e R s m args below meth c g ω0 sz0 Q nL ω k n pc L (.int y :: .int x :: rest) := fun H locs ls hw hk hS hl => by
  subst hp
  exact lv_icmp_eq hC.1 hC.2.1 hdg ht (fun c9 => kt c9 H locs ls hw hk hS hl) (fun c9 => kf c9 H locs ls hw hk hS hl)
theorem s_icmp_ne (hC : Cx p l e R s m args below meth c cc nL own g ω0 sz0) {x y : Int32} {off : Int} {tgt : Nat} (hdg : decode cc pc = .ok (.if_icmp .ne off, 3)) (hp : pc + 3 = pc') (ht : (pc : Int) + off = (tgt : Int)) (kt : ¬ x = y → WP p l e R s m args below meth c g ω0 sz0 Q nL ω k n tgt L rest) (kf : x = y → WP p l e R s m args below meth c g ω0 sz0 Q nL ω k n pc' L rest) : WP p l e R s m args below meth c g ω0 sz0 Q nL ω k n pc L (.int y :: .int x :: rest) := fun H locs ls hw hk hS hl => by
  subst hp
  exact lv_icmp_ne hC.1 hC.2.1 hdg ht (fun c9 => kt c9 H locs ls hw hk hS hl) (fun c9 => kf c9 H locs ls hw hk hS hl)
theorem s_icmp_lt (hC : Cx p l e R s m args below meth c cc nL own g ω0 sz0) {x y : Int32} {off : Int} {tgt : Nat} (hdg : decode cc pc = .ok (.if_icmp .lt off, 3)) (hp : pc + 3 = pc') (ht : (pc : Int) + off = (tgt : Int)) (kt : x < y → WP p l e R s m args below meth c g ω0 sz0 Q nL ω k n tgt L rest) (kf : ¬ x < y → WP p l e R s m args below meth c g ω0 sz0 Q nL ω k n pc' L rest) : WP p l e R s m args below meth c g ω0 sz0 Q nL ω k n pc L (.int y :: .int x :: rest) := fun H locs ls hw hk hS hl => by
  subst hp
  exact lv_icmp_lt hC.1 hC.2.1 hdg ht (fun c9 => kt c9 H locs ls hw hk hS hl) (fun c9 => kf c9 H locs ls hw hk hS hl)
theorem s_icmp_ge (hC : Cx p l e R s m args below meth c cc nL own g ω0 sz0) {x y : Int32} {off : Int} {tgt : Nat} (hdg : decode cc pc = .ok (.if_icmp .ge off, 3)) (hp : pc + 3 = pc') (ht : (pc : Int) + off = (tgt : Int)) (kt : y ≤ x → WP p l e R s m args below meth c g ω0 sz0 Q nL ω k n tgt L rest) (kf : ¬ y ≤ x → WP p l e R s m args below meth c g ω0 sz0 Q nL ω k n pc' L rest) : WP p l e R s m args below meth c g ω0 sz0 Q nL ω k n pc L (.int y :: .int x :: rest) := fun H locs ls hw hk hS hl => by
  subst hp
  exact lv_icmp_ge hC.1 hC.2.1 hdg ht (fun c9 => kt c9 H locs ls hw hk hS hl) (fun c9 => kf c9 H locs ls hw hk hS hl)
theorem s_icmp_gt (hC : Cx p l e R s m args below meth c cc nL own g ω0 sz0) {x y : Int32} {off : Int} {tgt : Nat} (hdg : decode cc pc = .ok (.if_icmp .gt off, 3)) (hp : pc + 3 = pc') (ht : (pc : Int) + off = (tgt : Int)) (kt : y < x → WP p l e R s m args below meth c g ω0 sz0 Q nL ω k n tgt L rest) (kf : ¬ y < x → WP p l e R s m args below meth c g ω0 sz0 Q nL ω k n pc' L rest) : WP p l e R s m args below meth c g ω0 sz0 Q nL ω k n pc L (.int y :: .int x :: rest) := fun H locs ls hw hk hS hl => by
  subst hp
  exact lv_icmp_gt hC.1 hC.2.1 hdg ht (fun c9 => kt c9 H locs ls hw hk hS hl) (fun c9 => kf c9 H locs ls hw hk hS hl)
theorem s_icmp_le (hC : Cx p l e R s m args below meth c cc nL own g ω0 sz0) {x y : Int32} {off : Int} {tgt : Nat} (hdg : decode cc pc = .ok (.if_icmp .le off, 3)) (hp : pc + 3 = pc') (ht : (pc : Int) + off = (tgt : Int)) (kt : x ≤ y → WP p l e R s m args below meth c g ω0 sz0 Q nL ω k n tgt L rest) (kf : ¬ x ≤ y → WP p l e R s m args below meth c g ω0 sz0 Q nL ω k n pc' L rest) : WP p l e R s m args below meth c g ω0 sz0 Q nL ω k n pc L (.int y :: .int x :: rest) := fun H locs ls hw hk hS hl => by
  subst hp
  exact lv_icmp_le hC.1 hC.2.1 hdg ht (fun c9 => kt c9 H locs ls hw hk hS hl) (fun c9 => kf c9 H locs ls hw hk hS hl)
theorem s_acmp_eq (hC : Cx p l e R s m args below meth c cc nL own g ω0 sz0) {rx ry : Option Nat} {off : Int} {tgt : Nat} (hdg : decode cc pc = .ok (.if_acmp .eq off, 3)) (hp : pc + 3 = pc') (ht : (pc : Int) + off = (tgt : Int)) (kt : rx = ry → WP p l e R s m args below meth c g ω0 sz0 Q nL ω k n tgt L rest) (kf : ¬ rx = ry → WP p l e R s m args below meth c g ω0 sz0 Q nL ω k n pc' L rest) : WP p l e R s m args below meth c g ω0 sz0 Q nL ω k n pc L (va_rf ry :: va_rf rx :: rest) := fun H locs ls hw hk hS hl => by
  subst hp
  exact lv_acmp_eq hC.1 hC.2.1 hdg ht (fun c9 => kt c9 H locs ls hw hk hS hl) (fun c9 => kf c9 H locs ls hw hk hS hl)
theorem s_acmp_ne (hC : Cx p l e R s m args below meth c cc nL own g ω0 sz0) {rx ry : Option Nat} {off : Int} {tgt : Nat} (hdg : decode cc pc = .ok (.if_acmp .ne off, 3)) (hp : pc + 3 = pc') (ht : (pc : Int) + off = (tgt : Int)) (kt : ¬ rx = ry → WP p l e R s m args below meth c g ω0 sz0 Q nL ω k n tgt L rest) (kf : rx = ry → WP p l e R s m args below meth c g ω0 sz0 Q nL ω k n pc' L rest) : WP p l e R s m args below meth c g ω0 sz0 Q nL ω k n pc L (va_rf ry :: va_rf rx :: rest) := fun H locs ls hw hk hS hl => by
  subst hp
  exact lv_acmp_ne hC.1 hC.2.1 hdg ht (fun c9 => kt c9 H locs ls hw hk hS hl) (fun c9 => kf c9 H locs ls hw hk hS hl)
theorem s_iload_n (hC : Cx p l e R s m args below meth c cc nL own g ω0 sz0) {k9 : Fin 4} {i : Nat} {x : Int32} (hdg : decode cc pc = .ok (.iload_n k9, 1)) (hp : pc + 1 = pc') (hi : (k9 : Nat) = i) (j : Nat) (hj : L[j]? = some (i, .int x)) (kk : WP p l e R s m args below meth c g ω0 sz0 Q nL ω k n pc' L (.int x :: rest)) : WP p l e R s m args below meth c g ω0 sz0 Q nL ω k n pc L (rest) := fun H locs ls hw hk hS hl => by
  subst hp
  exact lv_iload_n hC.1 hC.2.1 hdg hi (lv_at hl j hj) (kk H locs ls hw hk hS hl)
theorem s_iload (hC : Cx p l e R s m args below meth c cc nL own g ω0 sz0) {i : Nat} {x : Int32} (hdg : decode cc pc = .ok (.iload i, 2)) (hp : pc + 2 = pc') (j : Nat) (hj : L[j]? = some (i, .int x)) (kk : WP p l e R s m args below meth c g ω0 sz0 Q nL ω k n pc' L (.int x :: rest)) : WP p l e R s m args below meth c g ω0 sz0 Q nL ω k n pc L (rest) := fun H locs ls hw hk hS hl => by
  subst hp
  exact lv_iload hC.1 hC.2.1 hdg (lv_at hl j hj) (kk H locs ls hw hk hS hl)
theorem s_lload_n (hC : Cx p l e R s m args below meth c cc nL own g ω0 sz0) {k9 : Fin 4} {i : Nat} {x : Int64} (hdg : decode cc pc = .ok (.lload_n k9, 1)) (hp : pc + 1 = pc') (hi : (k9 : Nat) = i) (j : Nat) (hj : L[j]? = some (i, .long x)) (kk : WP p l e R s m args below meth c g ω0 sz0 Q nL ω k n pc' L (.long x :: rest)) : WP p l e R s m args below meth c g ω0 sz0 Q nL ω k n pc L (rest) := fun H locs ls hw hk hS hl => by
  subst hp
  exact lv_lload_n hC.1 hC.2.1 hdg hi (lv_at hl j hj) (kk H locs ls hw hk hS hl)
theorem s_lload (hC : Cx p l e R s m args below meth c cc nL own g ω0 sz0) {i : Nat} {x : Int64} (hdg : decode cc pc = .ok (.lload i, 2)) (hp : pc + 2 = pc') (j : Nat) (hj : L[j]? = some (i, .long x)) (kk : WP p l e R s m args below meth c g ω0 sz0 Q nL ω k n pc' L (.long x :: rest)) : WP p l e R s m args below meth c g ω0 sz0 Q nL ω k n pc L (rest) := fun H locs ls hw hk hS hl => by
  subst hp
  exact lv_lload hC.1 hC.2.1 hdg (lv_at hl j hj) (kk H locs ls hw hk hS hl)
theorem s_aload_n (hC : Cx p l e R s m args below meth c cc nL own g ω0 sz0) {k9 : Fin 4} {i : Nat} {x : Nat} (hdg : decode cc pc = .ok (.aload_n k9, 1)) (hp : pc + 1 = pc') (hi : (k9 : Nat) = i) (j : Nat) (hj : L[j]? = some (i, .ref x)) (kk : WP p l e R s m args below meth c g ω0 sz0 Q nL ω k n pc' L (.ref x :: rest)) : WP p l e R s m args below meth c g ω0 sz0 Q nL ω k n pc L (rest) := fun H locs ls hw hk hS hl => by
  subst hp
  exact lv_aload_n hC.1 hC.2.1 hdg hi (lv_at hl j hj) (kk H locs ls hw hk hS hl)
theorem s_aload (hC : Cx p l e R s m args below meth c cc nL own g ω0 sz0) {i : Nat} {x : Nat} (hdg : decode cc pc = .ok (.aload i, 2)) (hp : pc + 2 = pc') (j : Nat) (hj : L[j]? = some (i, .ref x)) (kk : WP p l e R s m args below meth c g ω0 sz0 Q nL ω k n pc' L (.ref x :: rest)) : WP p l e R s m args below meth c g ω0 sz0 Q nL ω k n pc L (rest) := fun H locs ls hw hk hS hl => by
  subst hp
  exact lv_aload hC.1 hC.2.1 hdg (lv_at hl j hj) (kk H locs ls hw hk hS hl)
theorem s_fload (hC : Cx p l e R s m args below meth c cc nL own g ω0 sz0) {i : Nat} {x : UInt32} (hdg : decode cc pc = .ok (.fload i, 2)) (hp : pc + 2 = pc') (j : Nat) (hj : L[j]? = some (i, .float x)) (kk : WP p l e R s m args below meth c g ω0 sz0 Q nL ω k n pc' L (.float x :: rest)) : WP p l e R s m args below meth c g ω0 sz0 Q nL ω k n pc L (rest) := fun H locs ls hw hk hS hl => by
  subst hp
  exact lv_fload hC.1 hC.2.1 hdg (lv_at hl j hj) (kk H locs ls hw hk hS hl)
theorem s_dload (hC : Cx p l e R s m args below meth c cc nL own g ω0 sz0) {i : Nat} {x : UInt64} (hdg : decode cc pc = .ok (.dload i, 2)) (hp : pc + 2 = pc') (j : Nat) (hj : L[j]? = some (i, .double x)) (kk : WP p l e R s m args below meth c g ω0 sz0 Q nL ω k n pc' L (.double x :: rest)) : WP p l e R s m args below meth c g ω0 sz0 Q nL ω k n pc L (rest) := fun H locs ls hw hk hS hl => by
  subst hp
  exact lv_dload hC.1 hC.2.1 hdg (lv_at hl j hj) (kk H locs ls hw hk hS hl)
theorem s_dload_n (hC : Cx p l e R s m args below meth c cc nL own g ω0 sz0) {k9 : Fin 4} {i : Nat} {x : UInt64} (hdg : decode cc pc = .ok (.dload_n k9, 1)) (hp : pc + 1 = pc') (hi : (k9 : Nat) = i) (j : Nat) (hj : L[j]? = some (i, .double x)) (kk : WP p l e R s m args below meth c g ω0 sz0 Q nL ω k n pc' L (.double x :: rest)) : WP p l e R s m args below meth c g ω0 sz0 Q nL ω k n pc L (rest) := fun H locs ls hw hk hS hl => by
  subst hp
  exact lv_dload_n hC.1 hC.2.1 hdg hi (lv_at hl j hj) (kk H locs ls hw hk hS hl)
theorem s_fload_n (hC : Cx p l e R s m args below meth c cc nL own g ω0 sz0) {k9 : Fin 4} {i : Nat} {x : UInt32} (hdg : decode cc pc = .ok (.fload_n k9, 1)) (hp : pc + 1 = pc') (hi : (k9 : Nat) = i) (j : Nat) (hj : L[j]? = some (i, .float x)) (kk : WP p l e R s m args below meth c g ω0 sz0 Q nL ω k n pc' L (.float x :: rest)) : WP p l e R s m args below meth c g ω0 sz0 Q nL ω k n pc L (rest) := fun H locs ls hw hk hS hl => by
  subst hp
  exact lv_fload_n hC.1 hC.2.1 hdg hi (lv_at hl j hj) (kk H locs ls hw hk hS hl)
theorem s_istore_n (hC : Cx p l e R s m args below meth c cc nL own g ω0 sz0) {k9 : Fin 4} {i  : Nat} {x : Int32} {L' : List (Nat × Value)} (hdg : decode cc pc = .ok (.istore_n k9, 1)) (hp : pc + 1 = pc') (hi : (k9 : Nat) = i) (hn : i < nL) (hL : (i, Value.int x) :: L.filter (fun q => !(q.1 == i) && !(q.1 + 1 == i && q.2.category == 2)) = L') (kk : WP p l e R s m args below meth c g ω0 sz0 Q nL ω k n pc' L' rest) : WP p l e R s m args below meth c g ω0 sz0 Q nL ω k n pc L (.int x :: rest) := fun H locs ls hw hk hS hl => by
  subst hp
  exact lv_istore_n hC.1 hC.2.1 hdg hi hl hn hL (fun ls' hl' => kk H locs ls' hw hk hS hl')
theorem s_istore (hC : Cx p l e R s m args below meth c cc nL own g ω0 sz0) {i  : Nat} {x : Int32} {L' : List (Nat × Value)} (hdg : decode cc pc = .ok (.istore i, 2)) (hp : pc + 2 = pc') (hn : i < nL) (hL : (i, Value.int x) :: L.filter (fun q => !(q.1 == i) && !(q.1 + 1 == i && q.2.category == 2)) = L') (kk : WP p l e R s m args below meth c g ω0 sz0 Q nL ω k n pc' L' rest) : WP p l e R s m args below meth c g ω0 sz0 Q nL ω k n pc L (.int x :: rest) := fun H locs ls hw hk hS hl => by
  subst hp
  exact lv_istore hC.1 hC.2.1 hdg hl hn hL (fun ls' hl' => kk H locs ls' hw hk hS hl')
theorem s_lstore_n (hC : Cx p l e R s m args below meth c cc nL own g ω0 sz0) {k9 : Fin 4} {i  : Nat} {x : Int64} {L' : List (Nat × Value)} (hdg : decode cc pc = .ok (.lstore_n k9, 1)) (hp : pc + 1 = pc') (hi : (k9 : Nat) = i) (hn : i + 1 < nL) (hL : (i, Value.long x) :: L.filter (fun q => !(q.1 == i) && (!(q.1 == i + 1) && !(q.1 + 1 == i && q.2.category == 2))) = L') (kk : WP p l e R s m args below meth c g ω0 sz0 Q nL ω k n pc' L' rest) : WP p l e R s m args below meth c g ω0 sz0 Q nL ω k n pc L (.long x :: rest) := fun H locs ls hw hk hS hl => by
  subst hp
  exact lv_lstore_n hC.1 hC.2.1 hdg hi hl hn hL (fun ls' hl' => kk H locs ls' hw hk hS hl')
theorem s_lstore (hC : Cx p l e R s m args below meth c cc nL own g ω0 sz0) {i  : Nat} {x : Int64} {L' : List (Nat × Value)} (hdg : decode cc pc = .ok (.lstore i, 2)) (hp : pc + 2 = pc') (hn : i + 1 < nL) (hL : (i, Value.long x) :: L.filter (fun q => !(q.1 == i) && (!(q.1 == i + 1) && !(q.1 + 1 == i && q.2.category == 2))) = L') (kk : WP p l e R s m args below meth c g ω0 sz0 Q nL ω k n pc' L' rest) : WP p l e R s m args below meth c g ω0 sz0 Q nL ω k n pc L (.long x :: rest) := fun H locs ls hw hk hS hl => by
  subst hp
  exact lv_lstore hC.1 hC.2.1 hdg hl hn hL (fun ls' hl' => kk H locs ls' hw hk hS hl')
theorem s_astore_n (hC : Cx p l e R s m args below meth c cc nL own g ω0 sz0) {k9 : Fin 4} {i  : Nat} {x : Nat} {L' : List (Nat × Value)} (hdg : decode cc pc = .ok (.astore_n k9, 1)) (hp : pc + 1 = pc') (hi : (k9 : Nat) = i) (hn : i < nL) (hL : (i, Value.ref x) :: L.filter (fun q => !(q.1 == i) && !(q.1 + 1 == i && q.2.category == 2)) = L') (kk : WP p l e R s m args below meth c g ω0 sz0 Q nL ω k n pc' L' rest) : WP p l e R s m args below meth c g ω0 sz0 Q nL ω k n pc L (.ref x :: rest) := fun H locs ls hw hk hS hl => by
  subst hp
  exact lv_astore_n hC.1 hC.2.1 hdg hi hl hn hL (fun ls' hl' => kk H locs ls' hw hk hS hl')
theorem s_astore (hC : Cx p l e R s m args below meth c cc nL own g ω0 sz0) {i  : Nat} {x : Nat} {L' : List (Nat × Value)} (hdg : decode cc pc = .ok (.astore i, 2)) (hp : pc + 2 = pc') (hn : i < nL) (hL : (i, Value.ref x) :: L.filter (fun q => !(q.1 == i) && !(q.1 + 1 == i && q.2.category == 2)) = L') (kk : WP p l e R s m args below meth c g ω0 sz0 Q nL ω k n pc' L' rest) : WP p l e R s m args below meth c g ω0 sz0 Q nL ω k n pc L (.ref x :: rest) := fun H locs ls hw hk hS hl => by
  subst hp
  exact lv_astore hC.1 hC.2.1 hdg hl hn hL (fun ls' hl' => kk H locs ls' hw hk hS hl')
theorem s_fstore (hC : Cx p l e R s m args below meth c cc nL own g ω0 sz0) {i  : Nat} {x : UInt32} {L' : List (Nat × Value)} (hdg : decode cc pc = .ok (.fstore i, 2)) (hp : pc + 2 = pc') (hn : i < nL) (hL : (i, Value.float x) :: L.filter (fun q => !(q.1 == i) && !(q.1 + 1 == i && q.2.category == 2)) = L') (kk : WP p l e R s m args below meth c g ω0 sz0 Q nL ω k n pc' L' rest) : WP p l e R s m args below meth c g ω0 sz0 Q nL ω k n pc L (.float x :: rest) := fun H locs ls hw hk hS hl => by
  subst hp
  exact lv_fstore hC.1 hC.2.1 hdg hl hn hL (fun ls' hl' => kk H locs ls' hw hk hS hl')
theorem s_fstore_n (hC : Cx p l e R s m args below meth c cc nL own g ω0 sz0) {k9 : Fin 4} {i  : Nat} {x : UInt32} {L' : List (Nat × Value)} (hdg : decode cc pc = .ok (.fstore_n k9, 1)) (hp : pc + 1 = pc') (hi : (k9 : Nat) = i) (hn : i < nL) (hL : (i, Value.float x) :: L.filter (fun q => !(q.1 == i) && !(q.1 + 1 == i && q.2.category == 2)) = L') (kk : WP p l e R s m args below meth c g ω0 sz0 Q nL ω k n pc' L' rest) : WP p l e R s m args below meth c g ω0 sz0 Q nL ω k n pc L (.float x :: rest) := fun H locs ls hw hk hS hl => by
  subst hp
  exact lv_fstore_n hC.1 hC.2.1 hdg hi hl hn hL (fun ls' hl' => kk H locs ls' hw hk hS hl')
theorem s_dstore (hC : Cx p l e R s m args below meth c cc nL own g ω0 sz0) {i  : Nat} {x : UInt64} {L' : List (Nat × Value)} (hdg : decode cc pc = .ok (.dstore i, 2)) (hp : pc + 2 = pc') (hn : i + 1 < nL) (hL : (i, Value.double x) :: L.filter (fun q => !(q.1 == i) && (!(q.1 == i + 1) && !(q.1 + 1 == i && q.2.category == 2))) = L') (kk : WP p l e R s m args below meth c g ω0 sz0 Q nL ω k n pc' L' rest) : WP p l e R s m args below meth c g ω0 sz0 Q nL ω k n pc L (.double x :: rest) := fun H locs ls hw hk hS hl => by
  subst hp
  exact lv_dstore hC.1 hC.2.1 hdg hl hn hL (fun ls' hl' => kk H locs ls' hw hk hS hl')
theorem s_dstore_n (hC : Cx p l e R s m args below meth c cc nL own g ω0 sz0) {k9 : Fin 4} {i  : Nat} {x : UInt64} {L' : List (Nat × Value)} (hdg : decode cc pc = .ok (.dstore_n k9, 1)) (hp : pc + 1 = pc') (hi : (k9 : Nat) = i) (hn : i + 1 < nL) (hL : (i, Value.double x) :: L.filter (fun q => !(q.1 == i) && (!(q.1 == i + 1) && !(q.1 + 1 == i && q.2.category == 2))) = L') (kk : WP p l e R s m args below meth c g ω0 sz0 Q nL ω k n pc' L' rest) : WP p l e R s m args below meth c g ω0 sz0 Q nL ω k n pc L (.double x :: rest) := fun H locs ls hw hk hS hl => by
  subst hp
  exact lv_dstore_n hC.1 hC.2.1 hdg hi hl hn hL (fun ls' hl' => kk H locs ls' hw hk hS hl')
theorem s_goto (hC : Cx p l e R s m args below meth c cc nL own g ω0 sz0) {off : Int} {tgt : Nat} (hdg : decode cc pc = .ok (.goto off, 3)) (ht : (pc : Int) + off = (tgt : Int)) (kk : WP p l e R s m args below meth c g ω0 sz0 Q nL ω k n tgt L (rest)) : WP p l e R s m args below meth c g ω0 sz0 Q nL ω k n pc L (rest) := fun H locs ls hw hk hS hl => by
  exact lv_goto hC.1 hC.2.1 hdg ht (kk H locs ls hw hk hS hl)
theorem s_ifnonnull (hC : Cx p l e R s m args below meth c cc nL own g ω0 sz0) {x : Nat} {off : Int} {tgt : Nat} (hdg : decode cc pc = .ok (.ifnonnull off, 3)) (ht : (pc : Int) + off = (tgt : Int)) (kk : WP p l e R s m args below meth c g ω0 sz0 Q nL ω k n tgt L (rest)) : WP p l e R s m args below meth c g ω0 sz0 Q nL ω k n pc L (.ref x :: rest) := fun H locs ls hw hk hS hl => by
  exact lv_ifnonnull hC.1 hC.2.1 hdg ht (kk H locs ls hw hk hS hl)
theorem z_if_eq (hC : Cx p l e R s m args below meth c cc nL own g ω0 sz0) {x : Int32} {off : Int} {tgt : Nat} (hdg : decode cc pc = .ok (.ifCond .eq off, 3)) (hp : pc + 3 = pc') (ht : (pc : Int) + off = (tgt : Int)) (kt : x = 0 → WP p l e R s m args below meth c g ω0 sz0 Q nL ω k n tgt L rest) (kf : ¬ x = 0 → WP p l e R s m args below meth c g ω0 sz0 Q nL ω k n pc' L rest) : WP p l e R s m args below meth c g ω0 sz0 Q nL ω k n pc L (.int x :: rest) := fun H locs ls hw hk hS hl => by
  subst hp
  exact lv_if_eq hC.1 hC.2.1 hdg ht (fun c9 => kt c9 H locs ls hw hk hS hl) (fun c9 => kf c9 H locs ls hw hk hS hl)
theorem z_if_ne (hC : Cx p l e R s m args below meth c cc nL own g ω0 sz0) {x : Int32} {off : Int} {tgt : Nat} (hdg : decode cc pc = .ok (.ifCond .ne off, 3)) (hp : pc + 3 = pc') (ht : (pc : Int) + off = (tgt : Int)) (kt : ¬ x = 0 → WP p l e R s m args below meth c g ω0 sz0 Q nL ω k n tgt L rest) (kf : x = 0 → WP p l e R s m args below meth c g ω0 sz0 Q nL ω k n pc' L rest) : WP p l e R s m args below meth c g ω0 sz0 Q nL ω k n pc L (.int x :: rest) := fun H locs ls hw hk hS hl => by
  subst hp
  exact lv_if_ne hC.1 hC.2.1 hdg ht (fun c9 => kt c9 H locs ls hw hk hS hl) (fun c9 => kf c9 H locs ls hw hk hS hl)
theorem z_if_lt (hC : Cx p l e R s m args below meth c cc nL own g ω0 sz0) {x : Int32} {off : Int} {tgt : Nat} (hdg : decode cc pc = .ok (.ifCond .lt off, 3)) (hp : pc + 3 = pc') (ht : (pc : Int) + off = (tgt : Int)) (kt : ¬ 0 ≤ x → WP p l e R s m args below meth c g ω0 sz0 Q nL ω k n tgt L rest) (kf : 0 ≤ x → WP p l e R s m args below meth c g ω0 sz0 Q nL ω k n pc' L rest) : WP p l e R s m args below meth c g ω0 sz0 Q nL ω k n pc L (.int x :: rest) := fun H locs ls hw hk hS hl => by
  subst hp
  exact lv_if_lt hC.1 hC.2.1 hdg ht (fun c9 => kt (Int32.not_le.mpr c9) H locs ls hw hk hS hl) (fun c9 => kf (Int32.not_lt.mp c9) H locs ls hw hk hS hl)
theorem z_if_ge (hC : Cx p l e R s m args below meth c cc nL own g ω0 sz0) {x : Int32} {off : Int} {tgt : Nat} (hdg : decode cc pc = .ok (.ifCond .ge off, 3)) (hp : pc + 3 = pc') (ht : (pc : Int) + off = (tgt : Int)) (kt : 0 ≤ x → WP p l e R s m args below meth c g ω0 sz0 Q nL ω k n tgt L rest) (kf : ¬ 0 ≤ x → WP p l e R s m args below meth c g ω0 sz0 Q nL ω k n pc' L rest) : WP p l e R s m args below meth c g ω0 sz0 Q nL ω k n pc L (.int x :: rest) := fun H locs ls hw hk hS hl => by
  subst hp
  exact lv_if_ge hC.1 hC.2.1 hdg ht (fun c9 => kt c9 H locs ls hw hk hS hl) (fun c9 => kf c9 H locs ls hw hk hS hl)
theorem z_if_gt (hC : Cx p l e R s m args below meth c cc nL own g ω0 sz0) {x : Int32} {off : Int} {tgt : Nat} (hdg : decode cc pc = .ok (.ifCond .gt off, 3)) (hp : pc + 3 = pc') (ht : (pc : Int) + off = (tgt : Int)) (kt : ¬ x ≤ 0 → WP p l e R s m args below meth c g ω0 sz0 Q nL ω k n tgt L rest) (kf : x ≤ 0 → WP p l e R s m args below meth c g ω0 sz0 Q nL ω k n pc' L rest) : WP p l e R s m args below meth c g ω0 sz0 Q nL ω k n pc L (.int x :: rest) := fun H locs ls hw hk hS hl => by
  subst hp
  exact lv_if_gt hC.1 hC.2.1 hdg ht (fun c9 => kt (Int32.not_le.mpr c9) H locs ls hw hk hS hl) (fun c9 => kf (Int32.not_lt.mp c9) H locs ls hw hk hS hl)
theorem z_if_le (hC : Cx p l e R s m args below meth c cc nL own g ω0 sz0) {x : Int32} {off : Int} {tgt : Nat} (hdg : decode cc pc = .ok (.ifCond .le off, 3)) (hp : pc + 3 = pc') (ht : (pc : Int) + off = (tgt : Int)) (kt : x ≤ 0 → WP p l e R s m args below meth c g ω0 sz0 Q nL ω k n tgt L rest) (kf : ¬ x ≤ 0 → WP p l e R s m args below meth c g ω0 sz0 Q nL ω k n pc' L rest) : WP p l e R s m args below meth c g ω0 sz0 Q nL ω k n pc L (.int x :: rest) := fun H locs ls hw hk hS hl => by
  subst hp
  exact lv_if_le hC.1 hC.2.1 hdg ht (fun c9 => kt c9 H locs ls hw hk hS hl) (fun c9 => kf c9 H locs ls hw hk hS hl)
theorem z_icmp_eq (hC : Cx p l e R s m args below meth c cc nL own g ω0 sz0) {x y : Int32} {off : Int} {tgt : Nat} (hdg : decode cc pc = .ok (.if_icmp .eq off, 3)) (hp : pc + 3 = pc') (ht : (pc : Int) + off = (tgt : Int)) (kt : x = y → WP p l e R s m args below meth c g ω0 sz0 Q nL ω k n tgt L rest) (kf : ¬ x = y → WP p l e R s m args below meth c g ω0 sz0 Q nL ω k n pc' L rest) : WP p l e R s m args below meth c g ω0 sz0 Q nL ω k n pc L (.int y :: .int x :: rest) := fun H locs ls hw hk hS hl => by
  subst hp
  exact lv_icmp_eq hC.1 hC.2.1 hdg ht (fun c9 => kt c9 H locs ls hw hk hS hl) (fun c9 => kf c9 H locs ls hw hk hS hl)
theorem z_icmp_ne (hC : Cx p l e R s m args below meth c cc nL own g ω0 sz0) {x y : Int32} {off : Int} {tgt : Nat} (hdg : decode cc pc = .ok (.if_icmp .ne off, 3)) (hp : pc + 3 = pc') (ht : (pc : Int) + off = (tgt : Int)) (kt : ¬ x = y → WP p l e R s m args below meth c g ω0 sz0 Q nL ω k n tgt L rest) (kf : x = y → WP p l e R s m args below meth c g ω0 sz0 Q nL ω k n pc' L rest) : WP p l e R s m args below meth c g ω0 sz0 Q nL ω k n pc L (.int y :: .int x :: rest) := fun H locs ls hw hk hS hl => by
  subst hp
  exact lv_icmp_ne hC.1 hC.2.1 hdg ht (fun c9 => kt c9 H locs ls hw hk hS hl) (fun c9 => kf c9 H locs ls hw hk hS hl)
theorem z_icmp_lt (hC : Cx p l e R s m args below meth c cc nL own g ω0 sz0) {x y : Int32} {off : Int} {tgt : Nat} (hdg : decode cc pc = .ok (.if_icmp .lt off, 3)) (hp : pc + 3 = pc') (ht : (pc : Int) + off = (tgt : Int)) (kt : ¬ y ≤ x → WP p l e R s m args below meth c g ω0 sz0 Q nL ω k n tgt L rest) (kf : y ≤ x → WP p l e R s m args below meth c g ω0 sz0 Q nL ω k n pc' L rest) : WP p l e R s m args below meth c g ω0 sz0 Q nL ω k n pc L (.int y :: .int x :: rest) := fun H locs ls hw hk hS hl => by
  subst hp
  exact lv_icmp_lt hC.1 hC.2.1 hdg ht (fun c9 => kt (Int32.not_le.mpr c9) H locs ls hw hk hS hl) (fun c9 => kf (Int32.not_lt.mp c9) H locs ls hw hk hS hl)
theorem z_icmp_ge (hC : Cx p l e R s m args below meth c cc nL own g ω0 sz0) {x y : Int32} {off : Int} {tgt : Nat} (hdg : decode cc pc = .ok (.if_icmp .ge off, 3)) (hp : pc + 3 = pc') (ht : (pc : Int) + off = (tgt : Int)) (kt : y ≤ x → WP p l e R s m args below meth c g ω0 sz0 Q nL ω k n tgt L rest) (kf : ¬ y ≤ x → WP p l e R s m args below meth c g ω0 sz0 Q nL ω k n pc' L rest) : WP p l e R s m args below meth c g ω0 sz0 Q nL ω k n pc L (.int y :: .int x :: rest) := fun H locs ls hw hk hS hl => by
  subst hp
  exact lv_icmp_ge hC.1 hC.2.1 hdg ht (fun c9 => kt c9 H locs ls hw hk hS hl) (fun c9 => kf c9 H locs ls hw hk hS hl)
theorem z_icmp_gt (hC : Cx p l e R s m args below meth c cc nL own g ω0 sz0) {x y : Int32} {off : Int} {tgt : Nat} (hdg : decode cc pc = .ok (.if_icmp .gt off, 3)) (hp : pc + 3 = pc') (ht : (pc : Int) + off = (tgt : Int)) (kt : ¬ x ≤ y → WP p l e R s m args below meth c g ω0 sz0 Q nL ω k n tgt L rest) (kf : x ≤ y → WP p l e R s m args below meth c g ω0 sz0 Q nL ω k n pc' L rest) : WP p l e R s m args below meth c g ω0 sz0 Q nL ω k n pc L (.int y :: .int x :: rest) := fun H locs ls hw hk hS hl => by
  subst hp
  exact lv_icmp_gt hC.1 hC.2.1 hdg ht (fun c9 => kt (Int32.not_le.mpr c9) H locs ls hw hk hS hl) (fun c9 => kf (Int32.not_lt.mp c9) H locs ls hw hk hS hl)
theorem z_icmp_le (hC : Cx p l e R s m args below meth c cc nL own g ω0 sz0) {x y : Int32} {off : Int} {tgt : Nat} (hdg : decode cc pc = .ok (.if_icmp .le off, 3)) (hp : pc + 3 = pc') (ht : (pc : Int) + off = (tgt : Int)) (kt : x ≤ y → WP p l e R s m args below meth c g ω0 sz0 Q nL ω k n tgt L rest) (kf : ¬ x ≤ y → WP p l e R s m args below meth c g ω0 sz0 Q nL ω k n pc' L rest) : WP p l e R s m args below meth c g ω0 sz0 Q nL ω k n pc L (.int y :: .int x :: rest) := fun H locs ls hw hk hS hl => by
  subst hp
  exact lv_icmp_le hC.1 hC.2.1 hdg ht (fun c9 => kt c9 H locs ls hw hk hS hl) (fun c9 => kf c9 H locs ls hw hk hS hl)
theorem z_acmp_eq (hC : Cx p l e R s m args below meth c cc nL own g ω0 sz0) {rx ry : Option Nat} {off : Int} {tgt : Nat} (hdg : decode cc pc = .ok (.if_acmp .eq off, 3)) (hp : pc + 3 = pc') (ht : (pc : Int) + off = (tgt : Int)) (kt : rx = ry → WP p l e R s m args below meth c g ω0 sz0 Q nL ω k n tgt L rest) (kf : ¬ rx = ry → WP p l e R s m args below meth c g ω0 sz0 Q nL ω k n pc' L rest) : WP p l e R s m args below meth c g ω0 sz0 Q nL ω k n pc L (va_rf ry :: va_rf rx :: rest) := fun H locs ls hw hk hS hl => by
  subst hp
  exact lv_acmp_eq hC.1 hC.2.1 hdg ht (fun c9 => kt c9 H locs ls hw hk hS hl) (fun c9 => kf c9 H locs ls hw hk hS hl)
theorem z_acmp_ne (hC : Cx p l e R s m args below meth c cc nL own g ω0 sz0) {rx ry : Option Nat} {off : Int} {tgt : Nat} (hdg : decode cc pc = .ok (.if_acmp .ne off, 3)) (hp : pc + 3 = pc') (ht : (pc : Int) + off = (tgt : Int)) (kt : ¬ rx = ry → WP p l e R s m args below meth c g ω0 sz0 Q nL ω k n tgt L rest) (kf : rx = ry → WP p l e R s m args below meth c g ω0 sz0 Q nL ω k n pc' L rest) : WP p l e R s m args below meth c g ω0 sz0 Q nL ω k n pc L (va_rf ry :: va_rf rx :: rest) := fun H locs ls hw hk hS hl => by
  subst hp
  exact lv_acmp_ne hC.1 hC.2.1 hdg ht (fun c9 => kt c9 H locs ls hw hk hS hl) (fun c9 => kf c9 H locs ls hw hk hS hl)
theorem s_iinc (hC : Cx p l e R s m args below meth c cc nL own g ω0 sz0) {i j9 : Nat} {n9 : Int} {x v : Int32} {L' : List (Nat × Value)} (hdg : decode cc pc = .ok (.iinc i n9, 3)) (hp : pc + 3 = pc') (hj : L[j9]? = some (i, .int x)) (hv : x + Int32.ofInt n9 = v) (hn : i < nL) (hL : (i, Value.int v) :: L.filter (fun q => !(q.1 == i) && !(q.1 + 1 == i && q.2.category == 2)) = L') (kk : WP p l e R s m args below meth c g ω0 sz0 Q nL ω k n pc' L' rest) : WP p l e R s m args below meth c g ω0 sz0 Q nL ω k n pc L rest := fun H locs ls hw hk hS hl => by
  subst hp
  exact lv_iinc hC.1 hC.2.1 hdg hl hj hv hn hL (fun ls' hl' => kk H locs ls' hw hk hS hl')
theorem z_if_eqB (hC : Cx p l e R s m args below meth c cc nL own g ω0 sz0) {b : Bool} {off : Int} {tgt : Nat} (hdg : decode cc pc = .ok (.ifCond .eq off, 3)) (hp : pc + 3 = pc') (ht : (pc : Int) + off = (tgt : Int)) (kt : b = false → WP p l e R s m args below meth c g ω0 sz0 Q nL ω k n tgt L rest) (kf : b = true → WP p l e R s m args below meth c g ω0 sz0 Q nL ω k n pc' L rest) : WP p l e R s m args below meth c g ω0 sz0 Q nL ω k n pc L (.int (bI b) :: rest) :=
  z_if_eq hC hdg hp ht (fun h => kt (bI_0.mp h)) (fun h => kf (by cases b <;> first | rfl | exact absurd rfl h))
theorem z_if_neB (hC : Cx p l e R s m args below meth c cc nL own g ω0 sz0) {b : Bool} {off : Int} {tgt : Nat} (hdg : decode cc pc = .ok (.ifCond .ne off, 3)) (hp : pc + 3 = pc') (ht : (pc : Int) + off = (tgt : Int)) (kt : b = true → WP p l e R s m args below meth c g ω0 sz0 Q nL ω k n tgt L rest) (kf : b = false → WP p l e R s m args below meth c g ω0 sz0 Q nL ω k n pc' L rest) : WP p l e R s m args below meth c g ω0 sz0 Q nL ω k n pc L (.int (bI b) :: rest) :=
  z_if_ne hC hdg hp ht (fun h => kt (by cases b <;> first | rfl | exact absurd rfl h)) (fun h => kf (bI_0.mp h))
theorem WP.widen {k1 n1 : Nat} (h1 : k ≤ k1) (h2 : n ≤ n1) (kk : WP p l e R s m args below meth c g ω0 sz0 Q nL ω k1 n1 pc L rest) : WP p l e R s m args below meth c g ω0 sz0 Q nL ω k n pc L rest := fun H locs ls hw hk hS hl => W.widen h1 h2 (kk H locs ls hw hk hS hl)
theorem WP.sub {L' : List (Nat × Value)} (is : List Nat) (h : lv_pick L is = L') (kk : WP p l e R s m args below meth c g ω0 sz0 Q nL ω k n pc L' rest) : WP p l e R s m args below meth c g ω0 sz0 Q nL ω k n pc L rest := fun H locs ls hw hk hS hl => kk H locs ls hw hk hS (lv_sub hl is h)
theorem WP.of {ω' : Wd} (h : ω = ω') (kk : WP p l e R s m args below meth c g ω0 sz0 Q nL ω' k n pc L rest) : WP p l e R s m args below meth c g ω0 sz0 Q nL ω k n pc L rest := h ▸ kk
/-- what is read off the world in passing: addresses are apart from what isn't in it -/
theorem WP.use {P : Prop} (h : ∀ H locs, wh g (frA ω0 sz0) ω H → va_S (frA ω0 sz0) s.heap H locs → P) (kk : P → WP p l e R s m args below meth c g ω0 sz0 Q nL ω k n pc L rest) : WP p l e R s m args below meth c g ω0 sz0 Q nL ω k n pc L rest := fun H locs ls hw hk hS hl => kk (h H locs hw hS) H locs ls hw hk hS hl
section RETS
variable {post : Option Value → Wd → Prop} {xp : String → Wd → Prop} {mc ms : Nat}
theorem s_iret (hC : Cx p l e R s m args below meth c cc nL own g ω0 sz0) (hr : meth.sig.returnType = some .int) {v : Int32} (hdg : decode cc pc = .ok (.ireturn, 1)) (hk1 : k ≤ mc) (hn1 : n ≤ ms) (hq : post (some (.int v)) ω) : WP p l e R s m args below meth c g ω0 sz0 (Qm below args s g ω0 sz0 post xp mc ms) nL ω k n pc L [.int v] := fun H locs ls hw hk hS hl => by
  refine W.widen hk1 hn1 (vx_ret (W.iret hC.1 hC.2.1 hr (fun t ht hW => ⟨some (.int v), ω, rfl, hq, by rw [ht]; exact hw, hk, hS.F ht⟩) hS.2.2 hdg (hlocks := hC.2.2.2.2.2.2.1)))
theorem s_zret (hC : Cx p l e R s m args below meth c cc nL own g ω0 sz0) {ty : FieldType} (hr : meth.sig.returnType = some ty) {v : Int32} (hdg : decode cc pc = .ok (.ireturn, 1)) (hn9 : narrow ty (.int v) = .int v) (hk1 : k ≤ mc) (hn1 : n ≤ ms) (hq : post (some (.int v)) ω) : WP p l e R s m args below meth c g ω0 sz0 (Qm below args s g ω0 sz0 post xp mc ms) nL ω k n pc L [.int v] := fun H locs ls hw hk hS hl => by
  refine W.widen hk1 hn1 (vx_ret (W.zret hC.1 hC.2.1 hr hn9 (fun t ht hW => ⟨some (.int v), ω, rfl, hq, by rw [ht]; exact hw, hk, hS.F ht⟩) hS.2.2 hdg (hlocks := hC.2.2.2.2.2.2.1)))
theorem s_lret (hC : Cx p l e R s m args below meth c cc nL own g ω0 sz0) (hr : meth.sig.returnType = some .long) {v : Int64} (hdg : decode cc pc = .ok (.lreturn, 1)) (hk1 : k ≤ mc) (hn1 : n ≤ ms) (hq : post (some (.long v)) ω) : WP p l e R s m args below meth c g ω0 sz0 (Qm below args s g ω0 sz0 post xp mc ms) nL ω k n pc L [.long v] := fun H locs ls hw hk hS hl => by
  refine W.widen hk1 hn1 (vx_ret (W.lret hC.1 hC.2.1 hr (fun t ht hW => ⟨some (.long v), ω, rfl, hq, by rw [ht]; exact hw, hk, hS.F ht⟩) hS.2.2 hdg (hlocks := hC.2.2.2.2.2.2.1)))
theorem s_fret (hC : Cx p l e R s m args below meth c cc nL own g ω0 sz0) (hr : meth.sig.returnType = some .float) {v : UInt32} (hdg : decode cc pc = .ok (.freturn, 1)) (hk1 : k ≤ mc) (hn1 : n ≤ ms) (hq : post (some (.float v)) ω) : WP p l e R s m args below meth c g ω0 sz0 (Qm below args s g ω0 sz0 post xp mc ms) nL ω k n pc L [.float v] := fun H locs ls hw hk hS hl => by
  refine W.widen hk1 hn1 (vx_ret (W.fret hC.1 hC.2.1 hr (fun t ht hW => ⟨some (.float v), ω, rfl, hq, by rw [ht]; exact hw, hk, hS.F ht⟩) hS.2.2 hdg (hlocks := hC.2.2.2.2.2.2.1)))
theorem s_dret (hC : Cx p l e R s m args below meth c cc nL own g ω0 sz0) (hr : meth.sig.returnType = some .double) {v : UInt64} (hdg : decode cc pc = .ok (.dreturn, 1)) (hk1 : k ≤ mc) (hn1 : n ≤ ms) (hq : post (some (.double v)) ω) : WP p l e R s m args below meth c g ω0 sz0 (Qm below args s g ω0 sz0 post xp mc ms) nL ω k n pc L [.double v] := fun H locs ls hw hk hS hl => by
  refine W.widen hk1 hn1 (vx_ret (W.dret hC.1 hC.2.1 hr (fun t ht hW => ⟨some (.double v), ω, rfl, hq, by rw [ht]; exact hw, hk, hS.F ht⟩) hS.2.2 hdg (hlocks := hC.2.2.2.2.2.2.1)))
theorem s_vret (hC : Cx p l e R s m args below meth c cc nL own g ω0 sz0) (hr : meth.sig.returnType = none) (hdg : decode cc pc = .ok (.return_, 1)) (hk1 : k ≤ mc) (hn1 : n ≤ ms) (hq : post none ω) : WP p l e R s m args below meth c g ω0 sz0 (Qm below args s g ω0 sz0 post xp mc ms) nL ω k n pc L [] := fun H locs ls hw hk hS hl => by
  refine W.widen hk1 hn1 (vx_ret (W.vret hC.1 hC.2.1 hr (fun t ht hW => ⟨none, ω, rfl, hq, by rw [ht]; exact hw, hk, hS.F ht⟩) hS.2.2 hdg (hlocks := hC.2.2.2.2.2.2.1)))
theorem s_aret (hC : Cx p l e R s m args below meth c cc nL own g ω0 sz0) {rt : FieldType} (hr : meth.sig.returnType = some rt) (hrt : (∃ n, rt = .object n) ∨ ∃ t, rt = .array t) {a : Nat} (hdg : decode cc pc = .ok (.areturn, 1)) (hk1 : k ≤ mc) (hn1 : n ≤ ms) (hq : post (some (.ref a)) ω) : WP p l e R s m args below meth c g ω0 sz0 (Qm below args s g ω0 sz0 post xp mc ms) nL ω k n pc L [.ref a] := fun H locs ls hw hk hS hl => by
  refine W.widen hk1 hn1 (vx_ret (W.aret hC.1 hC.2.1 hr hrt (Or.inr ⟨a, rfl⟩) (fun t ht hW => ⟨some (.ref a), ω, rfl, hq, by rw [ht]; exact hw, hk, hS.F ht⟩) hS.2.2 hdg (hlocks := hC.2.2.2.2.2.2.1)))
/-- an exception that this method has no row for -/
theorem s_out (hC : Cx p l e R s m args below meth c cc nL own g ω0 sz0) (htab : ∀ x ∈ c.exceptionTable.toList, False) {E : String} (hk1 : k ≤ mc) (hn1 : n ≤ ms) (hq : xp E ω) : WX p l e R s m args below meth c g ω0 sz0 (Qm below args s g ω0 sz0 post xp mc ms) nL ω k n pc L rest E := fun H locs ls q ce hw hk hS hl hce hcv hcl =>
  vx_out (fun x hx => (htab x hx).elim) hC.2.2.2.2.2.2.1 hce hcv hcl (fun t ht hW => ⟨ω, hq, by rw [ht]; exact hw, hk, hS.F ht⟩) hS.2.2 hk1 hn1
/-- 'throw new E("text")' -/
theorem s_throwS (hC : Cx p l e R s m args below meth c cc nL own g ω0 sz0) (htab : ∀ x ∈ c.exceptionTable.toList, False) (hst : l.stackTraces = false) {cls text : String} {names : List String} {ik is ic i : Nat} (hcls : Bundle.fit cls = true ∧ ∀ n ∈ names, Bundle.fit n = true)
    (hk0 : Cond.classLink own ik cls ∈ lw_tbl) (hini : Cond.initialized cls ∈ lw_tbl) (hstr : stS[i]? = some (own, is, text)) (hat : ∀ w ∈ vx_atS own ic cls names, w ∈ lw_tbl ∧ (goodWord w = true ∨ nwk w = true)) (hot : ∀ w ∈ vx_atS own ic cls names, vx_ot w = true)
    (d0 : decode cc pc = .ok (.new ik, 3)) (d3 : decode cc (pc + 3) = .ok (.dup, 1)) (d4 : decode cc (pc + 4) = .ok (.ldc is, 2)) (d6 : decode cc (pc + 6) = .ok (.invokespecial ic, 3)) (d9 : decode cc (pc + 9) = .ok (.athrow, 1))
    (hR : names.length + 3 < R.frames ∧ (rest.map fun v => v.category).sum + (13 * (names.length + 1) + 43) ≤ R.locals ∧ k + 1 ≤ R.cells ∧ n + 6 ≤ R.slots) (hm : k + 1 ≤ mc ∧ n + 6 ≤ ms) (hq : xp cls ω) : WP p l e R s m args below meth c g ω0 sz0 (Qm below args s g ω0 sz0 post xp mc ms) nL ω k n pc L rest := fun H locs ls hw hk hS hl => by
  have hG := hC.2.2.2.2.2.1
  obtain ⟨-, -, -, rS, -, ⟨rU, rN⟩, -⟩ := hG.2.2
  refine vx_throwS hC.1 hC.2.1 hst hC.2.2.2.1 hcls.1 hcls.2 (hC.w hk0 rfl) (hC.w hini rfl) (rS i _ hstr) (fun w hw => ?_) (fun w hw => ?_) rU rN (hC.S0 hS) (by rw [hC.2.2.1]; exact hl.1) d0 d3 d4 d6 d9 (fun x hx => (htab x hx).elim) hR.1 hR.2.1 hR.2.2.1 hR.2.2.2 hC.2.2.2.2.2.2.1 (fun t hal hz hq1 => ?_) hS.2.2 hm.1 hm.2
  · rcases (hat w hw).2 with h | h
    · exact hC.w (hat w hw).1 h
    · exact hC.n (hat w hw).1 h
  · rcases List.mem_cons.mp hw with rfl | hw
    · rfl
    · rcases List.mem_cons.mp hw with rfl | hw
      · rfl
      · exact hot w hw
  · exact ⟨ω, hq, wh_kept hw (fun a ha => hq1 a (by obtain ⟨e9, he9⟩ := Option.ne_none_iff_exists'.mp ha; exact (wh_at hw he9).2.2)), hk, ⟨Nat.le_trans hS.1 hz, fun q h1 h2 => (hq1 q (Nat.lt_of_lt_of_le h1 hS.1)).trans (hS.2.1 q h1 h2)⟩⟩
/-- .., the text by a wide index -/
theorem s_throwSW (hC : Cx p l e R s m args below meth c cc nL own g ω0 sz0) (htab : ∀ x ∈ c.exceptionTable.toList, False) (hst : l.stackTraces = false) {cls text : String} {names : List String} {ik is ic i : Nat} (hcls : Bundle.fit cls = true ∧ ∀ n ∈ names, Bundle.fit n = true)
    (hk0 : Cond.classLink own ik cls ∈ lw_tbl) (hini : Cond.initialized cls ∈ lw_tbl) (hstr : stS[i]? = some (own, is, text)) (hat : ∀ w ∈ vx_atS own ic cls names, w ∈ lw_tbl ∧ (goodWord w = true ∨ nwk w = true)) (hot : ∀ w ∈ vx_atS own ic cls names, vx_ot w = true)
    (d0 : decode cc pc = .ok (.new ik, 3)) (d3 : decode cc (pc + 3) = .ok (.dup, 1)) (d4 : decode cc (pc + 4) = .ok (.ldc_w is, 3)) (d6 : decode cc (pc + 7) = .ok (.invokespecial ic, 3)) (d9 : decode cc (pc + 10) = .ok (.athrow, 1))
    (hR : names.length + 3 < R.frames ∧ (rest.map fun v => v.category).sum + (13 * (names.length + 1) + 43) ≤ R.locals ∧ k + 1 ≤ R.cells ∧ n + 6 ≤ R.slots) (hm : k + 1 ≤ mc ∧ n + 6 ≤ ms) (hq : xp cls ω) : WP p l e R s m args below meth c g ω0 sz0 (Qm below args s g ω0 sz0 post xp mc ms) nL ω k n pc L rest := fun H locs ls hw hk hS hl => by
  have hG := hC.2.2.2.2.2.1
  obtain ⟨-, -, -, rS, -, ⟨rU, rN⟩, -⟩ := hG.2.2
  refine vx_throwSW hC.1 hC.2.1 hst hC.2.2.2.1 hcls.1 hcls.2 (hC.w hk0 rfl) (hC.w hini rfl) (rS i _ hstr) (fun w hw => ?_) (fun w hw => ?_) rU rN (hC.S0 hS) (by rw [hC.2.2.1]; exact hl.1) d0 d3 d4 d6 d9 (fun x hx => (htab x hx).elim) hR.1 hR.2.1 hR.2.2.1 hR.2.2.2 hC.2.2.2.2.2.2.1 (fun t hal hz hq1 => ?_) hS.2.2 hm.1 hm.2
  · rcases (hat w hw).2 with h | h
    · exact hC.w (hat w hw).1 h
    · exact hC.n (hat w hw).1 h
  · rcases List.mem_cons.mp hw with rfl | hw
    · rfl
    · rcases List.mem_cons.mp hw with rfl | hw
      · rfl
      · exact hot w hw
  · exact ⟨ω, hq, wh_kept hw (fun a ha => hq1 a (by obtain ⟨e9, he9⟩ := Option.ne_none_iff_exists'.mp ha; exact (wh_at hw he9).2.2)), hk, ⟨Nat.le_trans hS.1 hz, fun q h1 h2 => (hq1 q (Nat.lt_of_lt_of_le h1 hS.1)).trans (hS.2.1 q h1 h2)⟩⟩
end RETS
/-- a class as the worlds have it: its place, its fields, their types -/
def CS (ci : Nat) (C : String) (T : u_T) (N : Nat) (ty : Nat → FieldType) : Prop := vwCl[ci]? = some (C, T, N) ∧ (∀ w ∈ u_ws C T N, w ∈ W0) ∧ (∀ k, k < N → parseFieldDescriptor (T k).2.2.1 = some (ty k)) ∧ (∀ a, a < N → ∀ b, b < N → a ≠ b → (T a).2.1 ≠ (T b).2.1)
section OBJ
variable {ci N index j a : Nat} {C : String} {T : u_T} {ty : Nat → FieldType} {fs : List Value} {v : Value}
theorem s_getfR (hC : Cx p l e R s m args below meth c cc nL own g ω0 sz0) (cs : CS ci C T N ty) (j : Nat) {ref : String} (hlink : Cond.fieldLink own index ref (T j).2.1 (T j).2.2.1 ∈ lw_tbl) (hsame : ∀ x, s.fieldFound? (T j).1 (T j).2.1 (T j).2.2.1 = some x → s.fieldFound? ref (T j).2.1 (T j).2.2.1 = some x) (hj : j < N) (he : ω a = some (.inr (ci, fs))) (hv : fs[j]? = some v) (hdg : decode cc pc = .ok (.getfield index, 3)) (hp : pc + 3 = pc')
    (kk : WP p l e R s m args below meth c g ω0 sz0 Q nL ω k n pc' L (v :: rest)) : WP p l e R s m args below meth c g ω0 sz0 Q nL ω k n pc L (.ref a :: rest) := fun H locs ls hw hk hS hl => by
  subst hp
  exact va_get hC.1 hC.2.1 hC.2.2.2.2.1 cs.2.1 hC.2.2.2.1 hC.2.2.2.2.2.1.1 (wh_one hw he) 0 rfl cs.1 j hj (hC.w hlink rfl) hsame hv hdg (kk H locs ls hw hk hS hl)
theorem s_getf (hC : Cx p l e R s m args below meth c cc nL own g ω0 sz0) (cs : CS ci C T N ty) (j : Nat) (hlink : Cond.fieldLink own index (T j).1 (T j).2.1 (T j).2.2.1 ∈ lw_tbl) (hj : j < N) (he : ω a = some (.inr (ci, fs))) (hv : fs[j]? = some v) (hdg : decode cc pc = .ok (.getfield index, 3)) (hp : pc + 3 = pc')
    (kk : WP p l e R s m args below meth c g ω0 sz0 Q nL ω k n pc' L (v :: rest)) : WP p l e R s m args below meth c g ω0 sz0 Q nL ω k n pc L (.ref a :: rest) := s_getfR hC cs j hlink (fun _ h9 => h9) hj he hv hdg hp kk
theorem s_getfN (hC : Cx p l e R s m args below meth c cc nL own g ω0 sz0) (cs : CS ci C T N ty) (j : Nat) {host : String} (hlink : Cond.fieldLinkNest own index (T j).1 (T j).2.1 (T j).2.2.1 host ∈ lw_tbl) (hj : j < N) (he : ω a = some (.inr (ci, fs))) (hv : fs[j]? = some v) (hdg : decode cc pc = .ok (.getfield index, 3)) (hp : pc + 3 = pc')
    (kk : WP p l e R s m args below meth c g ω0 sz0 Q nL ω k n pc' L (v :: rest)) : WP p l e R s m args below meth c g ω0 sz0 Q nL ω k n pc L (.ref a :: rest) := fun H locs ls hw hk hS hl => by
  subst hp
  exact va_getN hC.1 hC.2.1 hC.2.2.2.2.1 cs.2.1 hC.2.2.2.1 hC.2.2.2.2.2.1.1 (wh_one hw he) 0 rfl cs.1 j hj (hC.n hlink rfl) (fun _ h9 => h9) hv hdg (kk H locs ls hw hk hS hl)
theorem s_putfR (hC : Cx p l e R s m args below meth c cc nL own g ω0 sz0) (cs : CS ci C T N ty) (j : Nat) {ref : String} (hlink : Cond.fieldLink own index ref (T j).2.1 (T j).2.2.1 ∈ lw_tbl) (hsame : ∀ x, s.fieldFound? (T j).1 (T j).2.1 (T j).2.2.1 = some x → s.fieldFound? ref (T j).2.1 (T j).2.2.1 = some x) (hj : j < N) (hfin : (T j).2.2.2 = false) (hn9 : narrow (ty j) v = v) (hfit : fits (ty j) v = true) (he : ω a = some (.inr (ci, fs))) (hlen : j < fs.length) (hdg : decode cc pc = .ok (.putfield index, 3)) (hp : pc + 3 = pc')
    (kk : WP p l e R s m args below meth c g ω0 sz0 Q nL (wup ω a (.inr (ci, fs.set j v))) k n pc' L rest) : WP p l e R s m args below meth c g ω0 sz0 Q nL ω k n pc L (v :: .ref a :: rest) := fun H locs ls hw hk hS hl => by
  subst hp
  obtain ⟨ws, hP, hD, h1, h2, -⟩ := wh_all hw
  obtain ⟨q0, hq0⟩ := h1 a _ he
  exact va_put hC.1 hC.2.1 hC.2.2.2.2.1 cs.2.1 ty cs.2.2.1 cs.2.2.2 hC.2.2.2.1 hC.2.2.2.2.2.1.1 hP hD hS q0 hq0 cs.1 j hj (hC.w hlink rfl) hsame hfin (cs.2.2.1 j hj) hn9 hfit hlen hdg (fun H1 locs1 hP1 hD1 hS1 => kk H1 locs1 ls (h2 q0 a _ _ H1 hq0 hP1 hD1) (kp_up hk _ _) hS1 hl)
theorem s_putf (hC : Cx p l e R s m args below meth c cc nL own g ω0 sz0) (cs : CS ci C T N ty) (j : Nat) (hlink : Cond.fieldLink own index (T j).1 (T j).2.1 (T j).2.2.1 ∈ lw_tbl) (hj : j < N) (hfin : (T j).2.2.2 = false) (hn9 : narrow (ty j) v = v) (hfit : fits (ty j) v = true) (he : ω a = some (.inr (ci, fs))) (hlen : j < fs.length) (hdg : decode cc pc = .ok (.putfield index, 3)) (hp : pc + 3 = pc')
    (kk : WP p l e R s m args below meth c g ω0 sz0 Q nL (wup ω a (.inr (ci, fs.set j v))) k n pc' L rest) : WP p l e R s m args below meth c g ω0 sz0 Q nL ω k n pc L (v :: .ref a :: rest) := s_putfR hC cs j hlink (fun _ h9 => h9) hj hfin hn9 hfit he hlen hdg hp kk
theorem s_putfN (hC : Cx p l e R s m args below meth c cc nL own g ω0 sz0) (cs : CS ci C T N ty) (j : Nat) {host : String} (hlink : Cond.fieldLinkNest own index (T j).1 (T j).2.1 (T j).2.2.1 host ∈ lw_tbl) (hj : j < N) (hfin : (T j).2.2.2 = false) (hn9 : narrow (ty j) v = v) (hfit : fits (ty j) v = true) (he : ω a = some (.inr (ci, fs))) (hlen : j < fs.length) (hdg : decode cc pc = .ok (.putfield index, 3)) (hp : pc + 3 = pc')
    (kk : WP p l e R s m args below meth c g ω0 sz0 Q nL (wup ω a (.inr (ci, fs.set j v))) k n pc' L rest) : WP p l e R s m args below meth c g ω0 sz0 Q nL ω k n pc L (v :: .ref a :: rest) := fun H locs ls hw hk hS hl => by
  subst hp
  obtain ⟨ws, hP, hD, h1, h2, -⟩ := wh_all hw
  obtain ⟨q0, hq0⟩ := h1 a _ he
  exact va_putN hC.1 hC.2.1 hC.2.2.2.2.1 cs.2.1 ty cs.2.2.1 cs.2.2.2 hC.2.2.2.1 hC.2.2.2.2.2.1.1 hP hD hS q0 hq0 cs.1 j hj (hC.n hlink rfl) (fun _ h9 => h9) hfin (cs.2.2.1 j hj) hn9 hfit hlen hdg (fun H1 locs1 hP1 hD1 hS1 => kk H1 locs1 ls (h2 q0 a _ _ H1 hq0 hP1 hD1) (kp_up hk _ _) hS1 hl)
/-- a final field in a constructor -/
theorem s_putF (hC : Cx p l e R s m args below meth c cc nL own g ω0 sz0) (hin : meth.name = "<init>") (cs : CS ci C T N ty) (j : Nat) (hlink : Cond.fieldLink own index (T j).1 (T j).2.1 (T j).2.2.1 ∈ lw_tbl) (hj : j < N) (hfin : (T j).2.2.2 = true) (hdecl : (T j).1 = own) (hn9 : narrow (ty j) v = v) (hfit : fits (ty j) v = true) (he : ω a = some (.inr (ci, fs))) (hlen : j < fs.length) (hdg : decode cc pc = .ok (.putfield index, 3)) (hp : pc + 3 = pc')
    (kk : WP p l e R s m args below meth c g ω0 sz0 Q nL (wup ω a (.inr (ci, fs.set j v))) k n pc' L rest) : WP p l e R s m args below meth c g ω0 sz0 Q nL ω k n pc L (v :: .ref a :: rest) := fun H locs ls hw hk hS hl => by
  subst hp
  obtain ⟨ws, hP, hD, h1, h2, -⟩ := wh_all hw
  obtain ⟨q0, hq0⟩ := h1 a _ he
  exact va_putF hC.1 hC.2.1 hC.2.2.2.2.1 cs.2.1 ty cs.2.2.1 cs.2.2.2 hC.2.2.2.1 hC.2.2.2.2.2.1.1 hP hD hS q0 hq0 cs.1 j hj (hC.w hlink rfl) (fun _ h9 => h9) hfin hin hdecl (cs.2.2.1 j hj) hn9 hfit hlen hdg (fun H1 locs1 hP1 hD1 hS1 => kk H1 locs1 ls (h2 q0 a _ _ H1 hq0 hP1 hD1) (kp_up hk _ _) hS1 hl)
theorem s_new (hC : Cx p l e R s m args below meth c cc nL own g ω0 sz0) (cs : CS ci C T N ty) (hcl : Cond.classLink own index C ∈ lw_tbl) (hins : Cond.instantiable C N ∈ lw_tbl) (hini : Cond.initialized C ∈ lw_tbl) (hfs : ∀ j, j < N → defaultValue (ty j) = vp_V fs j) (hcells : k + 1 ≤ R.cells) (hslots : n + N ≤ R.slots) (hdg : decode cc pc = .ok (.new index, 3)) (hp : pc + 3 = pc')
    (kk : ∀ q, ω q = none → WP p l e R s m args below meth c g ω0 sz0 Q nL (wup ω q (.inr (ci, fs))) (k + 1) (n + N) pc' L (.ref q :: rest)) : WP p l e R s m args below meth c g ω0 sz0 Q nL ω k n pc L rest := fun H locs ls hw hk hS hl => by
  subst hp
  obtain ⟨ws, hP, hD, -, -, h3⟩ := wh_all hw
  exact va_new hC.1 hC.2.1 hC.2.2.2.2.1 cs.2.1 ty cs.2.2.1 hC.2.2.2.1 (hC.w hcl rfl) (hC.w hins rfl) (hC.w hini rfl) hC.2.2.2.2.2.1.1 hP hD hS hC.A cs.1 hfs hcells hslots hdg (fun q H1 hP1 hD1 hS1 => kk q (h3 q _ H1 hP1 hD1).1 H1 locs ls (h3 q _ H1 hP1 hD1).2 (kp_up hk _ _) hS1 hl)
/-- a cast to the object's own class -/
theorem s_cast (hC : Cx p l e R s m args below meth c cc nL own g ω0 sz0) (cs : CS ci C T N ty) (hcl : Cond.classLink own index C ∈ lw_tbl) (he : ω a = some (.inr (ci, fs))) (hdg : decode cc pc = .ok (.checkcast index, 3)) (hp : pc + 3 = pc')
    (kk : WP p l e R s m args below meth c g ω0 sz0 Q nL ω k n pc' L (.ref a :: rest)) : WP p l e R s m args below meth c g ω0 sz0 Q nL ω k n pc L (.ref a :: rest) := fun H locs ls hw hk hS hl => by
  subst hp
  exact va_castS hC.1 hC.2.1 hC.2.2.2.1 (hC.w hcl rfl) (hC.2.2.2.2.2.1.1.1 ci _ cs.1).2 (va_recv hC.2.2.2.2.2.1.1 (wh_one hw he) cs.1 (q0 := 0) rfl) hdg (kk H locs ls hw hk hS hl)
/-- Object's constructor -/
theorem s_objInit (hC : Cx p l e R s m args below meth c cc nL own g ω0 sz0) (hlink : Cond.methodLink own index Lib.objectInit ∈ lw_tbl) (hR : 1 ≤ R.frames ∧ (rest.map fun v => v.category).sum + 12 ≤ R.locals) (hdg : decode cc pc = .ok (.invokespecial index, 3)) (hp : pc + 3 = pc')
    (kk : WP p l e R s m args below meth c g ω0 sz0 Q nL ω k n pc' L rest) : WP p l e R s m args below meth c g ω0 sz0 Q nL ω k n pc L (.ref a :: rest) := fun H locs ls hw hk hS hl => by
  subst hp
  exact W.objInit hC.1 hC.2.1 hC.2.2.2.1 (hC.w hlink rfl) (hC.w (w := .instanceMethod Lib.objectInit) tw_46 rfl) (hC.w (w := .code Lib.objectInit ⟨#[0xb1]⟩ 1 none) tw_47 rfl) rfl (by rw [hC.2.2.1]; exact hl.1) rfl hdg hR.1 (by show 2 * 0 + _ + _ ≤ _; omega) (kk H locs ls hw hk hS hl)
end OBJ
/-- an array of ints or chars that can be read: one of the world, or a static one -/
def arK (g : Gl) (ω : Wd) (kd : Nat) (ty : FieldType) (a N : Nat) (f : Nat → Int32) : Prop := ω a = some (.inl (g.2.1 kd, N, .inl f)) ∨ ∃ (i : Nat) (C d D : String) (xs : List Int32), stT[i]? = some (C, d, D, ty, xs) ∧ a = g.2.2.1 i ∧ N = xs.length ∧ f = stF xs
abbrev arI (g : Gl) (ω : Wd) := arK g ω 0 .int
abbrev arC (g : Gl) (ω : Wd) := arK g ω 1 .char
section ARR
variable {a N : Nat} {f : Nat → Int32} {i : Int32}
theorem s_ialdK (hC : Cx p l e R s m args below meth c cc nL own g ω0 sz0) (ha : arI g ω a N f) (hin : vp_in i N) (hdg : decode cc pc = .ok (.iaload, 1)) (hp : pc + 1 = pc')
    (kk : WP p l e R s m args below meth c g ω0 sz0 Q nL ω k n pc' L (.int (f i.toNatClampNeg) :: rest)) : WP p l e R s m args below meth c g ω0 sz0 Q nL ω k n pc L (.int i :: .ref a :: rest) := fun H locs ls hw hk hS hl => by
  subst hp
  rcases ha with ha | ⟨i0, C, d, D, xs, h0, rfl, rfl, rfl⟩
  · exact va_iald hC.1 hC.2.1 hC.2.2.2.2.2.1.1 (wh_one hw ha) 0 0 rfl rfl hin hdg (kk H locs ls hw hk hS hl)
  · exact va_ti hC.1 hC.2.1 (hC.2.2.2.2.2.1.2.2.1 i0 _ h0).2 (hC.S0 hS) hin rfl hdg (kk H locs ls hw hk hS hl)
theorem s_caldK (hC : Cx p l e R s m args below meth c cc nL own g ω0 sz0) (ha : arC g ω a N f) (hin : vp_in i N) (hdg : decode cc pc = .ok (.caload, 1)) (hp : pc + 1 = pc')
    (kk : WP p l e R s m args below meth c g ω0 sz0 Q nL ω k n pc' L (.int (f i.toNatClampNeg) :: rest)) : WP p l e R s m args below meth c g ω0 sz0 Q nL ω k n pc L (.int i :: .ref a :: rest) := fun H locs ls hw hk hS hl => by
  subst hp
  rcases ha with ha | ⟨i0, C, d, D, xs, h0, rfl, rfl, rfl⟩
  · exact va_cald hC.1 hC.2.1 hC.2.2.2.2.2.1.1 (wh_one hw ha) 0 1 rfl rfl hin hdg (kk H locs ls hw hk hS hl)
  · exact va_tc hC.1 hC.2.1 (hC.2.2.2.2.2.1.2.2.1 i0 _ h0).2 (hC.S0 hS) hin rfl hdg (kk H locs ls hw hk hS hl)
theorem s_alenI (hC : Cx p l e R s m args below meth c cc nL own g ω0 sz0) (ha : arI g ω a N f) (hdg : decode cc pc = .ok (.arraylength, 1)) (hp : pc + 1 = pc')
    (kk : WP p l e R s m args below meth c g ω0 sz0 Q nL ω k n pc' L (.int (nI N) :: rest)) : WP p l e R s m args below meth c g ω0 sz0 Q nL ω k n pc L (.ref a :: rest) := fun H locs ls hw hk hS hl => by
  subst hp
  rcases ha with ha | ⟨i0, C, d, D, xs, h0, rfl, rfl, rfl⟩
  · exact va_alen hC.1 hC.2.1 hC.2.2.2.2.2.1.1 (wh_one hw ha) 0 0 rfl (ty := .int) rfl rfl hdg (kk H locs ls hw hk hS hl)
  · exact va_tlen hC.1 hC.2.1 (hC.2.2.2.2.2.1.2.2.1 i0 _ h0).2 (hC.S0 hS) rfl hdg (kk H locs ls hw hk hS hl)
theorem s_alenC (hC : Cx p l e R s m args below meth c cc nL own g ω0 sz0) (ha : arC g ω a N f) (hdg : decode cc pc = .ok (.arraylength, 1)) (hp : pc + 1 = pc')
    (kk : WP p l e R s m args below meth c g ω0 sz0 Q nL ω k n pc' L (.int (nI N) :: rest)) : WP p l e R s m args below meth c g ω0 sz0 Q nL ω k n pc L (.ref a :: rest) := fun H locs ls hw hk hS hl => by
  subst hp
  rcases ha with ha | ⟨i0, C, d, D, xs, h0, rfl, rfl, rfl⟩
  · exact va_alen hC.1 hC.2.1 hC.2.2.2.2.2.1.1 (wh_one hw ha) 0 1 rfl (ty := .char) rfl rfl hdg (kk H locs ls hw hk hS hl)
  · exact va_tlen hC.1 hC.2.1 (hC.2.2.2.2.2.1.2.2.1 i0 _ h0).2 (hC.S0 hS) rfl hdg (kk H locs ls hw hk hS hl)
theorem s_iast (hC : Cx p l e R s m args below meth c cc nL own g ω0 sz0) {x : Int32} (ha : ω a = some (.inl (g.2.1 0, N, .inl f))) (hin : vp_in i N) (hdg : decode cc pc = .ok (.iastore, 1)) (hp : pc + 1 = pc')
    (kk : WP p l e R s m args below meth c g ω0 sz0 Q nL (wup ω a (.inl (g.2.1 0, N, .inl (upd f i.toNatClampNeg x)))) k n pc' L rest) : WP p l e R s m args below meth c g ω0 sz0 Q nL ω k n pc L (.int x :: .int i :: .ref a :: rest) := fun H locs ls hw hk hS hl => by
  subst hp
  obtain ⟨ws, hP, hD, h1, h2, -⟩ := wh_all hw
  obtain ⟨q0, hq0⟩ := h1 a _ ha
  exact va_iast hC.1 hC.2.1 hC.2.2.2.2.2.1.1 hP hD hS q0 0 hq0 rfl hin hdg (fun H1 locs1 hP1 hD1 hS1 => kk H1 locs1 ls (h2 q0 a _ _ H1 hq0 hP1 hD1) (kp_up hk _ _) hS1 hl)
theorem s_cast_c (hC : Cx p l e R s m args below meth c cc nL own g ω0 sz0) {x : Int32} (ha : ω a = some (.inl (g.2.1 1, N, .inl f))) (hin : vp_in i N) (hx : vp_nar .char x = x) (hdg : decode cc pc = .ok (.castore, 1)) (hp : pc + 1 = pc')
    (kk : WP p l e R s m args below meth c g ω0 sz0 Q nL (wup ω a (.inl (g.2.1 1, N, .inl (upd f i.toNatClampNeg x)))) k n pc' L rest) : WP p l e R s m args below meth c g ω0 sz0 Q nL ω k n pc L (.int x :: .int i :: .ref a :: rest) := fun H locs ls hw hk hS hl => by
  subst hp
  obtain ⟨ws, hP, hD, h1, h2, -⟩ := wh_all hw
  obtain ⟨q0, hq0⟩ := h1 a _ ha
  exact va_cast hC.1 hC.2.1 hC.2.2.2.2.2.1.1 hP hD hS q0 1 hq0 rfl hin hdg (fun H1 locs1 hP1 hD1 hS1 => by rw [hx] at hP1 hD1; exact kk H1 locs1 ls (h2 q0 a _ _ H1 hq0 hP1 hD1) (kp_up hk _ _) hS1 hl)
theorem s_bald (hC : Cx p l e R s m args below meth c cc nL own g ω0 sz0) (ha : ω a = some (.inl (g.2.1 2, N, .inl f))) (hin : vp_in i N) (hdg : decode cc pc = .ok (.baload, 1)) (hp : pc + 1 = pc')
    (kk : WP p l e R s m args below meth c g ω0 sz0 Q nL ω k n pc' L (.int (f i.toNatClampNeg) :: rest)) : WP p l e R s m args below meth c g ω0 sz0 Q nL ω k n pc L (.int i :: .ref a :: rest) := fun H locs ls hw hk hS hl => by
  subst hp
  exact va_bald hC.1 hC.2.1 hC.2.2.2.2.2.1.1 (wh_one hw ha) 0 2 rfl rfl hin hdg (kk H locs ls hw hk hS hl)
theorem s_bast (hC : Cx p l e R s m args below meth c cc nL own g ω0 sz0) {x : Int32} (ha : ω a = some (.inl (g.2.1 2, N, .inl f))) (hin : vp_in i N) (hdg : decode cc pc = .ok (.bastore, 1)) (hp : pc + 1 = pc')
    (kk : WP p l e R s m args below meth c g ω0 sz0 Q nL (wup ω a (.inl (g.2.1 2, N, .inl (upd f i.toNatClampNeg (vp_nar .byte x))))) k n pc' L rest) : WP p l e R s m args below meth c g ω0 sz0 Q nL ω k n pc L (.int x :: .int i :: .ref a :: rest) := fun H locs ls hw hk hS hl => by
  subst hp
  obtain ⟨ws, hP, hD, h1, h2, -⟩ := wh_all hw
  obtain ⟨q0, hq0⟩ := h1 a _ ha
  exact va_bast hC.1 hC.2.1 hC.2.2.2.2.2.1.1 hP hD hS q0 2 hq0 rfl hin hdg (fun H1 locs1 hP1 hD1 hS1 => kk H1 locs1 ls (h2 q0 a _ _ H1 hq0 hP1 hD1) (kp_up hk _ _) hS1 hl)
theorem s_lald (hC : Cx p l e R s m args below meth c cc nL own g ω0 sz0) {fl : Nat → Int64} (ha : ω a = some (.inl (g.2.1 4, N, .inr (.inl fl)))) (hin : vp_in i N) (hdg : decode cc pc = .ok (.laload, 1)) (hp : pc + 1 = pc')
    (kk : WP p l e R s m args below meth c g ω0 sz0 Q nL ω k n pc' L (.long (fl i.toNatClampNeg) :: rest)) : WP p l e R s m args below meth c g ω0 sz0 Q nL ω k n pc L (.int i :: .ref a :: rest) := fun H locs ls hw hk hS hl => by
  subst hp
  exact va_lald hC.1 hC.2.1 hC.2.2.2.2.2.1.1 (wh_one hw ha) 0 4 rfl rfl hin hdg (kk H locs ls hw hk hS hl)
theorem s_last (hC : Cx p l e R s m args below meth c cc nL own g ω0 sz0) {fl : Nat → Int64} {x : Int64} (ha : ω a = some (.inl (g.2.1 4, N, .inr (.inl fl)))) (hin : vp_in i N) (hdg : decode cc pc = .ok (.lastore, 1)) (hp : pc + 1 = pc')
    (kk : WP p l e R s m args below meth c g ω0 sz0 Q nL (wup ω a (.inl (g.2.1 4, N, .inr (.inl (vp_updL fl i.toNatClampNeg x))))) k n pc' L rest) : WP p l e R s m args below meth c g ω0 sz0 Q nL ω k n pc L (.long x :: .int i :: .ref a :: rest) := fun H locs ls hw hk hS hl => by
  subst hp
  obtain ⟨ws, hP, hD, h1, h2, -⟩ := wh_all hw
  obtain ⟨q0, hq0⟩ := h1 a _ ha
  exact va_last hC.1 hC.2.1 hC.2.2.2.2.2.1.1 hP hD hS q0 4 hq0 rfl hin hdg (fun H1 locs1 hP1 hD1 hS1 => kk H1 locs1 ls (h2 q0 a _ _ H1 hq0 hP1 hD1) (kp_up hk _ _) hS1 hl)
theorem s_dald (hC : Cx p l e R s m args below meth c cc nL own g ω0 sz0) {fl : Nat → UInt64} (ha : ω a = some (.inl (g.2.1 5, N, .inr (.inr (.inr (.inl fl)))))) (hin : vp_in i N) (hdg : decode cc pc = .ok (.daload, 1)) (hp : pc + 1 = pc')
    (kk : WP p l e R s m args below meth c g ω0 sz0 Q nL ω k n pc' L (.double (fl i.toNatClampNeg) :: rest)) : WP p l e R s m args below meth c g ω0 sz0 Q nL ω k n pc L (.int i :: .ref a :: rest) := fun H locs ls hw hk hS hl => by
  subst hp
  exact va_dald hC.1 hC.2.1 hC.2.2.2.2.2.1.1 (wh_one hw ha) 0 5 rfl rfl hin hdg (kk H locs ls hw hk hS hl)
theorem s_dast (hC : Cx p l e R s m args below meth c cc nL own g ω0 sz0) {fl : Nat → UInt64} {x : UInt64} (ha : ω a = some (.inl (g.2.1 5, N, .inr (.inr (.inr (.inl fl)))))) (hin : vp_in i N) (hdg : decode cc pc = .ok (.dastore, 1)) (hp : pc + 1 = pc')
    (kk : WP p l e R s m args below meth c g ω0 sz0 Q nL (wup ω a (.inl (g.2.1 5, N, .inr (.inr (.inr (.inl (vf_upd fl i.toNatClampNeg x))))))) k n pc' L rest) : WP p l e R s m args below meth c g ω0 sz0 Q nL ω k n pc L (.double x :: .int i :: .ref a :: rest) := fun H locs ls hw hk hS hl => by
  subst hp
  obtain ⟨ws, hP, hD, h1, h2, -⟩ := wh_all hw
  obtain ⟨q0, hq0⟩ := h1 a _ ha
  exact va_dast hC.1 hC.2.1 hC.2.2.2.2.2.1.1 hP hD hS q0 5 hq0 rfl hin hdg (fun H1 locs1 hP1 hD1 hS1 => kk H1 locs1 ls (h2 q0 a _ _ H1 hq0 hP1 hD1) (kp_up hk _ _) hS1 hl)
/-- an array of references -/
theorem s_aald (hC : Cx p l e R s m args below meth c cc nL own g ω0 sz0) {fq : Nat → Option Nat} (ha : ω a = some (.inl (g.2.1 3, N, .inr (.inr (.inr (.inr fq)))))) (hin : vp_in i N) (hdg : decode cc pc = .ok (.aaload, 1)) (hp : pc + 1 = pc')
    (kk : WP p l e R s m args below meth c g ω0 sz0 Q nL ω k n pc' L (va_rf (fq i.toNatClampNeg) :: rest)) : WP p l e R s m args below meth c g ω0 sz0 Q nL ω k n pc L (.int i :: .ref a :: rest) := fun H locs ls hw hk hS hl => by
  subst hp
  exact va_aldq hC.1 hC.2.1 hC.2.2.2.2.2.1.1 (wh_one hw ha) 0 3 rfl rfl hin hdg (kk H locs ls hw hk hS hl)
theorem s_alenQ (hC : Cx p l e R s m args below meth c cc nL own g ω0 sz0) {fq : Nat → Option Nat} (ha : ω a = some (.inl (g.2.1 3, N, .inr (.inr (.inr (.inr fq)))))) (hdg : decode cc pc = .ok (.arraylength, 1)) (hp : pc + 1 = pc')
    (kk : WP p l e R s m args below meth c g ω0 sz0 Q nL ω k n pc' L (.int (nI N) :: rest)) : WP p l e R s m args below meth c g ω0 sz0 Q nL ω k n pc L (.ref a :: rest) := fun H locs ls hw hk hS hl => by
  subst hp
  exact va_alen hC.1 hC.2.1 hC.2.2.2.2.2.1.1 (wh_one hw ha) 0 3 rfl (ty := .object "java/lang/Object") rfl rfl hdg (kk H locs ls hw hk hS hl)
theorem s_alenB (hC : Cx p l e R s m args below meth c cc nL own g ω0 sz0) (ha : ω a = some (.inl (g.2.1 2, N, .inl f))) (hdg : decode cc pc = .ok (.arraylength, 1)) (hp : pc + 1 = pc')
    (kk : WP p l e R s m args below meth c g ω0 sz0 Q nL ω k n pc' L (.int (nI N) :: rest)) : WP p l e R s m args below meth c g ω0 sz0 Q nL ω k n pc L (.ref a :: rest) := fun H locs ls hw hk hS hl => by
  subst hp
  exact va_alen hC.1 hC.2.1 hC.2.2.2.2.2.1.1 (wh_one hw ha) 0 2 rfl (ty := .byte) rfl rfl hdg (kk H locs ls hw hk hS hl)
/-- the empty row of a fresh list -/
theorem s_alenE (hC : Cx p l e R s m args below meth c cc nL own g ω0 sz0) (hdg : decode cc pc = .ok (.arraylength, 1)) (hp : pc + 1 = pc')
    (kk : WP p l e R s m args below meth c g ω0 sz0 Q nL ω k n pc' L (.int (nI 0) :: rest)) : WP p l e R s m args below meth c g ω0 sz0 Q nL ω k n pc L (.ref (g.2.2.1 19) :: rest) := fun H locs ls hw hk hS hl => by
  subst hp
  exact va_tlen hC.1 hC.2.1 hC.2.2.2.2.2.1.2.2.2.1.2 (hC.S0 hS) rfl hdg (kk H locs ls hw hk hS hl)
theorem cy_eq (hK : va_K g.1 vwCl (tys g) s) {j : Nat} {ty : FieldType} {cA cB : ClassId} (h : (tys g)[j]? = some (cA, ty)) (hB : va_K g.1 vwCl (tys g ++ [(cB, ty)]) s) : cB = cA := by
  have h1 := (hK.2 j _ h).2
  have h2 := (hB.2 (tys g).length (cB, ty) (by simp)).2
  cases ty <;> first
    | exact Option.some.inj (h2.symm.trans h1)
    | (obtain ⟨-, -, -, -, -, a4⟩ := h1
       obtain ⟨-, -, -, -, -, b4⟩ := h2
       exact Option.some.inj (b4.symm.trans a4))
/-- a new array of numbers -/
theorem s_newa (hC : Cx p l e R s m args below meth c cc nL own g ω0 sz0) (j : Nat) {at0 : ArrayType} {ty : FieldType} {cA : ClassId} {N' : Nat} {a0 : vp_A} (hj : (tys g)[j]? = some (cA, ty)) (hty : newarray.typeOf at0 = ty) (harr : Cond.arrayClass (newarray.typeOf at0) ∈ lw_tbl) (ha : ∀ cB : ClassId, vp_cell cB a0 = arrV cB N' (fun _ => defaultValue ty)) (hn9 : ¬ i < 0) (hN : i.toNatClampNeg = N') (hb : N' * componentBytes ty ≤ 536870912) (hcells : k + 1 ≤ R.cells) (hslots : n + N' ≤ R.slots) (hdg : decode cc pc = .ok (.newarray at0, 2)) (hp : pc + 2 = pc')
    (kk : ∀ q, ω q = none → WP p l e R s m args below meth c g ω0 sz0 Q nL (wup ω q (.inl (cA, a0))) (k + 1) (n + N') pc' L (.ref q :: rest)) : WP p l e R s m args below meth c g ω0 sz0 Q nL ω k n pc L (.int i :: rest) := fun H locs ls hw hk hS hl => by
  subst hp
  obtain ⟨ws, hP, hD, -, -, h3⟩ := wh_all hw
  refine va_newa hC.1 hC.2.1 (hC.w harr rfl) hty hC.2.2.2.2.2.1.1 hP hD hS hC.A ha hn9 hN hb hcells hslots hdg (fun q cB H1 hK1 hP1 hD1 hS1 => ?_)
  obtain rfl := cy_eq hC.2.2.2.2.2.1.1 hj hK1
  exact kk q (h3 q _ H1 hP1 hD1).1 H1 locs ls (h3 q _ H1 hP1 hD1).2 (kp_up hk _ _) hS1 hl
end ARR
/-- a static array of numbers -/
theorem s_gets (hC : Cx p l e R s m args below meth c cc nL own g ω0 sz0) {index : Nat} (i : Nat) {C d D : String} {ty : FieldType} {xs : List Int32} (h0 : stT[i]? = some (C, d, D, ty, xs)) (hlink : Cond.fieldLink own index C d D ∈ lw_tbl) (hdg : decode cc pc = .ok (.getstatic index, 3)) (hp : pc + 3 = pc')
    (kk : WP p l e R s m args below meth c g ω0 sz0 Q nL ω k n pc' L (.ref (g.2.2.1 i) :: rest)) : WP p l e R s m args below meth c g ω0 sz0 Q nL ω k n pc L rest := fun H locs ls hw hk hS hl => by
  subst hp
  exact va_gets hC.1 hC.2.1 (hC.2.2.2.2.2.1.2.2.1 i _ h0).1 (hC.S0 hS) hC.2.2.2.1 (hC.w hlink rfl) (fun _ h9 => h9) hdg (kk H locs ls hw hk hS hl)
theorem s_getsN (hC : Cx p l e R s m args below meth c cc nL own g ω0 sz0) {index : Nat} {host : String} (i : Nat) {C d D : String} {ty : FieldType} {xs : List Int32} (h0 : stT[i]? = some (C, d, D, ty, xs)) (hlink : Cond.fieldLinkNest own index C d D host ∈ lw_tbl) (hdg : decode cc pc = .ok (.getstatic index, 3)) (hp : pc + 3 = pc')
    (kk : WP p l e R s m args below meth c g ω0 sz0 Q nL ω k n pc' L (.ref (g.2.2.1 i) :: rest)) : WP p l e R s m args below meth c g ω0 sz0 Q nL ω k n pc L rest := fun H locs ls hw hk hS hl => by
  subst hp
  exact va_getsN hC.1 hC.2.1 (hC.2.2.2.2.2.1.2.2.1 i _ h0).1 (hC.S0 hS) hC.2.2.2.1 (hC.n hlink rfl) (fun _ h9 => h9) hdg (kk H locs ls hw hk hS hl)
theorem s_ldcI (hC : Cx p l e R s m args below meth c cc nL own g ω0 sz0) {index : Nat} {v : Int32} (hw0 : Cond.constant own index v ∈ lw_tbl) (hdg : decode cc pc = .ok (.ldc index, 2)) (hp : pc + 2 = pc')
    (kk : WP p l e R s m args below meth c g ω0 sz0 Q nL ω k n pc' L (.int v :: rest)) : WP p l e R s m args below meth c g ω0 sz0 Q nL ω k n pc L rest := fun H locs ls hw hk hS hl => by
  subst hp
  exact lv_ldc hC.1 hC.2.1 hC.2.2.2.1 (hC.w hw0 rfl) hdg (kk H locs ls hw hk hS hl)
theorem s_ldcW (hC : Cx p l e R s m args below meth c cc nL own g ω0 sz0) {index : Nat} {v : Int32} (hw0 : Cond.constant own index v ∈ lw_tbl) (hdg : decode cc pc = .ok (.ldc_w index, 3)) (hp : pc + 3 = pc')
    (kk : WP p l e R s m args below meth c g ω0 sz0 Q nL ω k n pc' L (.int v :: rest)) : WP p l e R s m args below meth c g ω0 sz0 Q nL ω k n pc L rest := fun H locs ls hw hk hS hl => by
  subst hp
  exact lv_ldcw hC.1 hC.2.1 hC.2.2.2.1 (hC.w hw0 rfl) hdg (kk H locs ls hw hk hS hl)
theorem s_ldc2 (hC : Cx p l e R s m args below meth c cc nL own g ω0 sz0) {index : Nat} {v : Int64} (hw0 : Cond.constantLong own index v ∈ lw_tbl) (hdg : decode cc pc = .ok (.ldc2_w index, 3)) (hp : pc + 3 = pc')
    (kk : WP p l e R s m args below meth c g ω0 sz0 Q nL ω k n pc' L (.long v :: rest)) : WP p l e R s m args below meth c g ω0 sz0 Q nL ω k n pc L rest := fun H locs ls hw hk hS hl => by
  subst hp
  exact lv_ldc2 hC.1 hC.2.1 hC.2.2.2.1 (hC.w hw0 rfl) hdg (kk H locs ls hw hk hS hl)
theorem s_ldcS (hC : Cx p l e R s m args below meth c cc nL own g ω0 sz0) {index : Nat} (i : Nat) {text : String} (h0 : stS[i]? = some (own, index, text)) (hdg : decode cc pc = .ok (.ldc index, 2)) (hp : pc + 2 = pc')
    (kk : WP p l e R s m args below meth c g ω0 sz0 Q nL ω k n pc' L (.ref (adS g i) :: rest)) : WP p l e R s m args below meth c g ω0 sz0 Q nL ω k n pc L rest := fun H locs ls hw hk hS hl => by
  subst hp
  exact va_ldcS hC.1 hC.2.1 hC.2.2.2.1 (hC.2.2.2.2.2.1.2.2.2.2.2.1 i _ h0) hdg (kk H locs ls hw hk hS hl)
/-! calls -/
theorem Pcs_blind (As : List Value) (sz : Nat) : FrameBlind (Pcs g As ω sz) := fun a U g9 mk h => by
  obtain ⟨h1, h2, h3, h4, h5⟩ := h
  exact ⟨h1, h2, h3, Gd.warm (s := U) (U := U.calling g9 mk a) (State.WarmedH.refl U) h4, h5⟩
theorem Pcs_pre (hC : Cx p l e R s m args below meth c cc nL own g ω0 sz0) {H : Heap} {locs : List Loc} (hw : wh g (frA ω0 sz0) ω H) (hS : va_S (frA ω0 sz0) s.heap H locs) (As : List Value) : ∀ U : State, U.heap = H → s.WarmedH U.vm → Pcs g As ω H.size As.toArray U := fun U hU hW => by
  refine ⟨rfl, by rw [hU], by rw [hU]; exact wh_weak hw (fun _ _ _ => trivial), ?_, Nat.le_trans hC.2.2.2.2.2.2.2.2.1 (by rw [← hC.2.2.2.2.2.2.2.1]; exact hS.1), fun a ha => ?_⟩
  · rw [hU]
    have hG := hC.2.2.2.2.2.1
    exact ⟨va_K.moved hW.alike hG.1, hG.2.1.warm hW, (hG.2.2.warm hW).kept (fun a h1 h2 => hS.2.1 a h1 (fun z => h2 (hC.up z)))⟩
  · obtain ⟨e9, he9⟩ := Option.ne_none_iff_exists'.mp ha
    exact hC.up (wh_at hw he9).2.1
theorem wp_go (hC : Cx p l e R s m args below meth c cc nL own g ω0 sz0) {H : Heap} {locs : List Loc} {ls : Array Slot} {st : List Value} {mc1 ms1 ln : Nat} {post1 : Option Value → Wd → Prop} {xp1 : String → Wd → Prop} {a : Array Value} (hw : wh g (frA ω0 sz0) ω H) (hk : kp ω0 ω) (hS : va_S (frA ω0 sz0) s.heap H locs) (hl : lv_has ls nL L)
    (hr : ∀ T : State, T.heap = H → Stand p l e R s m args below meth c T locs k n →
      (∃ (v : Option Value) (st₀ t T' : State) (L9 : List Loc), st₀.heap = H ∧ Stand p l e R s m args below meth c T' (locs ++ L9) (k + mc1) (n + ms1) ∧ (∀ q ∈ L9, frA ω H.size q.base) ∧ T'.heap = t.heap ∧ T'.vm = t.vm ∧ Qs g ω H.size post1 a st₀ (.returned v) t ∧
        Goes p e below T (F0 m pc ls st) T' { (F0 m pc ls st) with pc := pc + ln, stack := v.toList ++ rest }) ∨
      (∃ (q : Addr) (st₀ t T' : State) (L9 : List Loc) (E : String) (ce : Cell), st₀.heap = H ∧ Stand p l e R s m args below meth c T' (locs ++ L9) (k + mc1) (n + ms1) ∧ (∀ z ∈ L9, frA ω H.size z.base) ∧ T'.heap = t.heap ∧ T'.vm = t.vm ∧ Xs g ω H.size xp1 E st₀ t ∧ t.heap[q]? = some ce ∧ ce.vm = .none ∧ s.vm.findClass E = some ce.cls ∧
        Steps p.tables e below (T.setTop (F0 m pc ls st)) ((T'.setTop { (F0 m pc ls st) with stack := rest }).pushFrame (.throwing q))))
    (hp : pc + ln = pc') (kk : ∀ r ω', post1 r ω' → WP p l e R s m args below meth c g ω0 sz0 Q nL ω' (k + mc1) (n + ms1) pc' L (r.toList ++ rest))
    (kx : ∀ E ω', xp1 E ω' → WX p l e R s m args below meth c g ω0 sz0 Q nL ω' (k + mc1) (n + ms1) pc L rest E) : W p l e R s m args below meth c H locs k n Q (F0 m pc ls st) := by
  subst hp
  have hup : ∀ q, frA ω H.size q → frA ω0 sz0 q := fun q hq => by
    rcases hq with hq | hq
    · obtain ⟨e9, he9⟩ := Option.ne_none_iff_exists'.mp hq
      exact (wh_at hw he9).2.1
    · exact Or.inr (Nat.le_trans (by rw [← hC.2.2.2.2.2.2.2.1]; exact hS.1) hq)
  intro T hT X
  rcases hr T hT X with ⟨v, st₀, t, T', L9, h0, X', hL9, e1, e2, ⟨r, ω', hv, hp9, hw', hk', hF⟩, stp⟩ | ⟨q, st₀, t, T', L9, E, ce, h0, X', hL9, e1, e2, ⟨ω', hx, hw', hk', hF⟩, hce, hcv, hcl, stp⟩
  · cases hv
    obtain ⟨-, -, hS'⟩ := vx_keep h0 e1 hS (fun q _ h => hup q h) hup hL9 hF
    obtain ⟨t2, a1, b1⟩ := kk v ω' hp9 T'.heap (locs ++ L9) ls (wh_weak (by rw [e1]; exact hw') (fun a _ h => hup a h)) (kp_tr hk hk') hS' hl T' rfl X'
    exact ⟨t2, stp t2 a1, b1⟩
  · obtain ⟨-, -, hS'⟩ := vx_keep h0 e1 hS (fun q _ h => hup q h) hup hL9 hF
    obtain ⟨t2, a1, b1⟩ := kx E ω' hx T'.heap (locs ++ L9) ls q ce (wh_weak (by rw [e1]; exact hw') (fun a _ h => hup a h)) (kp_tr hk hk') hS' hl (by rw [e1]; exact hce) hcv hcl T' rfl X'
    exact ⟨t2, stp.trans a1, b1⟩
/-- what the tables say of a callee: static; an instance's; a constructor -/
def CeS (y : MethodName) (bytes : ByteArray) (maxL : Nat) (ret : Option FieldType) (nA : Nat) : Prop := Cond.code y bytes maxL ret ∈ lw_tbl ∧ Cond.static y ∈ lw_tbl ∧ Cond.initialized y.cls ∈ lw_tbl ∧ (y.cls ≠ "java/lang/invoke/MethodHandle" ∧ y.cls ≠ "java/lang/invoke/VarHandle" ∧ (parseMethodDescriptor y.desc).map (fun d => d.parameters.length) = some nA)
def CeV (y : MethodName) (bytes : ByteArray) (maxL : Nat) (ret : Option FieldType) (nA : Nat) : Prop := Cond.code y bytes maxL ret ∈ lw_tbl ∧ (Cond.instanceMethod y ∈ lw_tbl ∧ Cond.selects y.cls y y ∈ lw_tbl) ∧ Cond.initialized y.cls ∈ lw_tbl ∧ (y.cls ≠ "java/lang/invoke/MethodHandle" ∧ y.cls ≠ "java/lang/invoke/VarHandle" ∧ (parseMethodDescriptor y.desc).map (fun d => d.parameters.length) = some nA)
def CeI (y : MethodName) (bytes : ByteArray) (maxL : Nat) (nA : Nat) : Prop := Cond.code y bytes maxL none ∈ lw_tbl ∧ (Cond.instanceMethod y ∈ lw_tbl ∧ y.name = "<init>") ∧ Cond.initialized y.cls ∈ lw_tbl ∧ (y.cls ≠ "java/lang/invoke/MethodHandle" ∧ y.cls ≠ "java/lang/invoke/VarHandle" ∧ (parseMethodDescriptor y.desc).map (fun d => d.parameters.length) = some nA)
theorem goodC {y : MethodName} {bytes : ByteArray} {maxL : Nat} {ret : Option FieldType} (h : Cond.code y bytes maxL ret ∈ lw_tbl) : GoodIn W0 (Cond.code y bytes maxL ret :: W0) := fun w hw => by
  rcases List.mem_cons.mp hw with rfl | hw
  · exact ⟨W0_in h rfl, Or.inl rfl⟩
  · exact W0_good w hw
section CALL
variable {y : MethodName} {bytes : ByteArray} {maxL index nA fr1 lo1 mc1 ms1 : Nat} {ret : Option FieldType} {As : List Value} {post1 : Option Value → Wd → Prop} {xp1 : String → Wd → Prop}
theorem callB0 (hC : Cx p l e R s m args below meth c cc nL own g ω0 sz0) (hc : Cond.code y bytes maxL ret ∈ lw_tbl) (hi : Cond.initialized y.cls ∈ lw_tbl) (hd : y.cls ≠ "java/lang/invoke/MethodHandle" ∧ y.cls ≠ "java/lang/invoke/VarHandle" ∧ (parseMethodDescriptor y.desc).map (fun d => d.parameters.length) = some nA) (hlink : Cond.methodLink own index y ∈ lw_tbl) (hR : fr1 + 1 ≤ R.frames ∧ 8 + (maxL + 11) + lo1 ≤ R.locals) :
    CallB R s args own index y bytes maxL ret (Cond.code y bytes maxL ret :: W0) { frames := fr1, cells := mc1, slots := ms1, locals := lo1 } mc1 ms1 nA :=
  callB_of nA hC.2.2.2.2.1 (goodC hc) rfl rfl rfl (hC.w hi rfl) (hC.w hlink rfl) hd hR
theorem s_callS (hC : Cx p l e R s m args below meth c cc nL own g ω0 sz0) (ct : CT l g y bytes maxL ret fr1 lo1 mc1 ms1 As ω post1 xp1) (ce : CeS y bytes maxL ret nA) (hlink : Cond.methodLink own index y ∈ lw_tbl) {st : List Value} (hst : st = As.reverse ++ rest) (hnA : As.length = nA) (hR : (fr1 + 1 ≤ R.frames ∧ 8 + (maxL + 11) + lo1 ≤ R.locals) ∧ k + mc1 ≤ R.cells ∧ n + ms1 ≤ R.slots) (hrest : (rest.map fun v => v.category).sum ≤ 8) (hdg : decode cc pc = .ok (.invokestatic index, 3)) (hp : pc + 3 = pc')
    (kk : ∀ r ω', post1 r ω' → WP p l e R s m args below meth c g ω0 sz0 Q nL ω' (k + mc1) (n + ms1) pc' L (r.toList ++ rest))
    (kx : ∀ E ω', xp1 E ω' → WX p l e R s m args below meth c g ω0 sz0 Q nL ω' (k + mc1) (n + ms1) pc L rest E) : WP p l e R s m args below meth c g ω0 sz0 Q nL ω k n pc L st := fun H locs ls hw hk hS hl =>
  wp_go hC hw hk hS hl (vx_runS (As := As) (rest := rest) ⟨hC.1, hC.2.1, hC.2.2.1, hC.2.2.2.1, hC.2.2.2.2.1⟩ (ct H.size) ⟨callB0 hC ce.1 ce.2.2.1 ce.2.2.2 hlink hR.1, hC.w ce.2.1 rfl⟩ ⟨Pcs_blind _ _, Pcs_pre hC hw hS As⟩ rfl hnA hl.1 hst (lv_room hrest) hdg hR.2) hp kk kx
theorem s_callV (hC : Cx p l e R s m args below meth c cc nL own g ω0 sz0) {b ci N : Nat} {T : u_T} {ty : Nat → FieldType} {fs : List Value} (ct : CT l g y bytes maxL ret fr1 lo1 mc1 ms1 (.ref b :: As) ω post1 xp1) (ce : CeV y bytes maxL ret nA) (cs : CS ci y.cls T N ty) (he : ω b = some (.inr (ci, fs))) (hlink : Cond.methodLink own index y ∈ lw_tbl) {st : List Value} (hst : st = As.reverse ++ .ref b :: rest) (hnA : As.length = nA) (hR : (fr1 + 1 ≤ R.frames ∧ 8 + (maxL + 11) + lo1 ≤ R.locals) ∧ k + mc1 ≤ R.cells ∧ n + ms1 ≤ R.slots) (hrest : (rest.map fun v => v.category).sum ≤ 8) (hdg : decode cc pc = .ok (.invokevirtual index, 3)) (hp : pc + 3 = pc')
    (kk : ∀ r ω', post1 r ω' → WP p l e R s m args below meth c g ω0 sz0 Q nL ω' (k + mc1) (n + ms1) pc' L (r.toList ++ rest))
    (kx : ∀ E ω', xp1 E ω' → WX p l e R s m args below meth c g ω0 sz0 Q nL ω' (k + mc1) (n + ms1) pc L rest E) : WP p l e R s m args below meth c g ω0 sz0 Q nL ω k n pc L st := fun H locs ls hw hk hS hl =>
  wp_go hC hw hk hS hl (vx_runV (C := y.cls) (As := As) (rest := rest) ⟨hC.1, hC.2.1, hC.2.2.1, hC.2.2.2.1, hC.2.2.2.2.1⟩ (ct H.size) ⟨callB0 hC ce.1 ce.2.2.1 ce.2.2.2 hlink hR.1, hC.w ce.2.1.1 rfl, hC.w ce.2.1.2 rfl⟩ ⟨Pcs_blind _ _, va_recv hC.2.2.2.2.2.1.1 (wh_one hw he) cs.1 (q0 := 0) rfl, Pcs_pre hC hw hS _⟩ rfl hnA hl.1 hst (lv_room hrest) hdg hR.2) hp kk kx
theorem s_callI (hC : Cx p l e R s m args below meth c cc nL own g ω0 sz0) {b : Nat} (ct : CT l g y bytes maxL none fr1 lo1 mc1 ms1 (.ref b :: As) ω post1 xp1) (ce : CeI y bytes maxL nA) (hlink : Cond.methodLink own index y ∈ lw_tbl) {st : List Value} (hst : st = As.reverse ++ .ref b :: rest) (hnA : As.length = nA) (hR : (fr1 + 1 ≤ R.frames ∧ 8 + (maxL + 11) + lo1 ≤ R.locals) ∧ k + mc1 ≤ R.cells ∧ n + ms1 ≤ R.slots) (hrest : (rest.map fun v => v.category).sum ≤ 8) (hdg : decode cc pc = .ok (.invokespecial index, 3)) (hp : pc + 3 = pc')
    (kk : ∀ r ω', post1 r ω' → WP p l e R s m args below meth c g ω0 sz0 Q nL ω' (k + mc1) (n + ms1) pc' L (r.toList ++ rest))
    (kx : ∀ E ω', xp1 E ω' → WX p l e R s m args below meth c g ω0 sz0 Q nL ω' (k + mc1) (n + ms1) pc L rest E) : WP p l e R s m args below meth c g ω0 sz0 Q nL ω k n pc L st := fun H locs ls hw hk hS hl =>
  wp_go hC hw hk hS hl (vx_runI (As := As) (rest := rest) ⟨hC.1, hC.2.1, hC.2.2.1, hC.2.2.2.1, hC.2.2.2.2.1⟩ (ct H.size) ⟨callB0 hC ce.1 ce.2.2.1 ce.2.2.2 hlink hR.1, ce.2.1.2, hC.w ce.2.1.1 rfl⟩ ⟨Pcs_blind _ _, Pcs_pre hC hw hS _⟩ rfl hnA hl.1 hst (lv_room hrest) hdg hR.2) hp kk kx
theorem callN0 (hC : Cx p l e R s m args below meth c cc nL own g ω0 sz0) {host : String} (hc : Cond.code y bytes maxL ret ∈ lw_tbl) (hi : Cond.initialized y.cls ∈ lw_tbl) (hd : y.cls ≠ "java/lang/invoke/MethodHandle" ∧ y.cls ≠ "java/lang/invoke/VarHandle" ∧ (parseMethodDescriptor y.desc).map (fun d => d.parameters.length) = some nA) (hlink : Cond.methodLinkNest own index y host ∈ lw_tbl) (hR : fr1 + 1 ≤ R.frames ∧ 8 + (maxL + 11) + lo1 ≤ R.locals) :
    va_CN R s args own index y host bytes maxL ret (Cond.code y bytes maxL ret :: W0) { frames := fr1, cells := mc1, slots := ms1, locals := lo1 } mc1 ms1 nA :=
  va_cnB nA hC.2.2.2.2.1 (goodC hc) rfl rfl rfl (va_Nw.of rfl (hC.n hlink rfl)) (hC.w hi rfl) hd hR
theorem s_callSN (hC : Cx p l e R s m args below meth c cc nL own g ω0 sz0) {host : String} (ct : CT l g y bytes maxL ret fr1 lo1 mc1 ms1 As ω post1 xp1) (ce : CeS y bytes maxL ret nA) (hlink : Cond.methodLinkNest own index y host ∈ lw_tbl) {st : List Value} (hst : st = As.reverse ++ rest) (hnA : As.length = nA) (hR : (fr1 + 1 ≤ R.frames ∧ 8 + (maxL + 11) + lo1 ≤ R.locals) ∧ k + mc1 ≤ R.cells ∧ n + ms1 ≤ R.slots) (hrest : (rest.map fun v => v.category).sum ≤ 8) (hdg : decode cc pc = .ok (.invokestatic index, 3)) (hp : pc + 3 = pc')
    (kk : ∀ r ω', post1 r ω' → WP p l e R s m args below meth c g ω0 sz0 Q nL ω' (k + mc1) (n + ms1) pc' L (r.toList ++ rest))
    (kx : ∀ E ω', xp1 E ω' → WX p l e R s m args below meth c g ω0 sz0 Q nL ω' (k + mc1) (n + ms1) pc L rest E) : WP p l e R s m args below meth c g ω0 sz0 Q nL ω k n pc L st := fun H locs ls hw hk hS hl =>
  wp_go hC hw hk hS hl (vx_runSN (As := As) (rest := rest) ⟨hC.1, hC.2.1, hC.2.2.1, hC.2.2.2.1, hC.2.2.2.2.1⟩ (ct H.size) ⟨callN0 hC ce.1 ce.2.2.1 ce.2.2.2 hlink hR.1, hC.w ce.2.1 rfl, trivial⟩ ⟨Pcs_blind _ _, Pcs_pre hC hw hS As⟩ rfl hnA hl.1 hst (lv_room hrest) hdg hR.2) hp kk kx
theorem s_callIN (hC : Cx p l e R s m args below meth c cc nL own g ω0 sz0) {b : Nat} {host : String} (ct : CT l g y bytes maxL none fr1 lo1 mc1 ms1 (.ref b :: As) ω post1 xp1) (ce : CeI y bytes maxL nA) (hlink : Cond.methodLinkNest own index y host ∈ lw_tbl) {st : List Value} (hst : st = As.reverse ++ .ref b :: rest) (hnA : As.length = nA) (hR : (fr1 + 1 ≤ R.frames ∧ 8 + (maxL + 11) + lo1 ≤ R.locals) ∧ k + mc1 ≤ R.cells ∧ n + ms1 ≤ R.slots) (hrest : (rest.map fun v => v.category).sum ≤ 8) (hdg : decode cc pc = .ok (.invokespecial index, 3)) (hp : pc + 3 = pc')
    (kk : ∀ r ω', post1 r ω' → WP p l e R s m args below meth c g ω0 sz0 Q nL ω' (k + mc1) (n + ms1) pc' L (r.toList ++ rest))
    (kx : ∀ E ω', xp1 E ω' → WX p l e R s m args below meth c g ω0 sz0 Q nL ω' (k + mc1) (n + ms1) pc L rest E) : WP p l e R s m args below meth c g ω0 sz0 Q nL ω k n pc L st := fun H locs ls hw hk hS hl =>
  wp_go hC hw hk hS hl (vx_runIN (As := As) (rest := rest) ⟨hC.1, hC.2.1, hC.2.2.1, hC.2.2.2.1, hC.2.2.2.2.1⟩ (ct H.size) ⟨callN0 hC ce.1 ce.2.2.1 ce.2.2.2 hlink hR.1, ce.2.1.2, hC.w ce.2.1.1 rfl⟩ ⟨Pcs_blind _ _, Pcs_pre hC hw hS _⟩ rfl hnA hl.1 hst (lv_room hrest) hdg hR.2) hp kk kx
/-- through an interface -/
theorem s_callF (hC : Cx p l e R s m args below meth c cc nL own g ω0 sz0) {x : MethodName} {b ci N cnt : Nat} {C : String} {T : u_T} {ty : Nat → FieldType} {fs : List Value} (i : Nat) (ct : CT l g y bytes maxL ret fr1 lo1 mc1 ms1 (.ref b :: As) ω post1 xp1) (h0 : stI[i]? = some (C, x, y)) (hc : Cond.code y bytes maxL ret ∈ lw_tbl) (hi : Cond.initialized y.cls ∈ lw_tbl) (hin : Cond.instanceMethod y ∈ lw_tbl) (hse : Cond.selects C x y ∈ lw_tbl) (hd : (parseMethodDescriptor x.desc).map (fun d => d.parameters.length) = some nA) (cs : CS ci C T N ty) (he : ω b = some (.inr (ci, fs))) (hlink : Cond.methodLink own index x ∈ lw_tbl) {st : List Value} (hst : st = As.reverse ++ .ref b :: rest) (hnA : As.length = nA) (hR : (fr1 + 1 ≤ R.frames ∧ 8 + (maxL + 11) + lo1 ≤ R.locals) ∧ k + mc1 ≤ R.cells ∧ n + ms1 ≤ R.slots) (hrest : (rest.map fun v => v.category).sum ≤ 8) (hdg : decode cc pc = .ok (.invokeinterface index cnt, 5)) (hp : pc + 5 = pc')
    (kk : ∀ r ω', post1 r ω' → WP p l e R s m args below meth c g ω0 sz0 Q nL ω' (k + mc1) (n + ms1) pc' L (r.toList ++ rest))
    (kx : ∀ E ω', xp1 E ω' → WX p l e R s m args below meth c g ω0 sz0 Q nL ω' (k + mc1) (n + ms1) pc L rest E) : WP p l e R s m args below meth c g ω0 sz0 Q nL ω k n pc L st := fun H locs ls hw hk hS hl => by
  have hG := hC.2.2.2.2.2.1
  obtain ⟨-, -, -, -, -, -, -, rF, -⟩ := hG.2.2
  have hT : GoodIn W0 (va_wsF own index C x y (Cond.code y bytes maxL ret :: W0)) := fun w hw => by
    simp only [va_wsF, List.cons_append, List.nil_append, List.mem_cons] at hw
    rcases hw with rfl | rfl | rfl | rfl | hw
    · exact ⟨W0_in hlink rfl, Or.inl rfl⟩
    · exact ⟨W0_in hse rfl, Or.inl rfl⟩
    · exact ⟨W0_in hin rfl, Or.inl rfl⟩
    · exact ⟨W0_in hi rfl, Or.inl rfl⟩
    · exact goodC hc w (List.mem_cons.mpr hw)
  exact wp_go hC hw hk hS hl (vx_runF (C := C) (As := As) (rest := rest) (hG.1.1 ci _ cs.1).2 ⟨hC.1, hC.2.1, hC.2.2.1, hC.2.2.2.1, hC.2.2.2.2.1⟩ (ct H.size) (va_cwF nA hC.2.2.2.2.1 hT rfl rfl rfl (rF i _ h0) ⟨(stI_ok i _ h0).1, (stI_ok i _ h0).2, hd⟩ hR.1) ⟨Pcs_blind _ _, va_recv hG.1 (wh_one hw he) cs.1 (q0 := 0) rfl, Pcs_pre hC hw hS _⟩ rfl hnA hl.1 hst (lv_room hrest) hdg hR.2) hp kk kx
end CALL
/-- Math.max, min, abs over ints -/
theorem s_max (hC : Cx p l e R s m args below meth c cc nL own g ω0 sz0) {index : Nat} {x y : Int32} (hlink : Cond.methodLink own index Lib.Math.max.name ∈ lw_tbl) (hR : 1 ≤ R.frames ∧ (rest.map fun v => v.category).sum + 13 ≤ R.locals ∧ k ≤ R.cells ∧ n ≤ R.slots) (hdg : decode cc pc = .ok (.invokestatic index, 3)) (hp : pc + 3 = pc') (kk : WP p l e R s m args below meth c g ω0 sz0 Q nL ω k n pc' L (.int (iMax x y) :: rest)) : WP p l e R s m args below meth c g ω0 sz0 Q nL ω k n pc L (.int y :: .int x :: rest) := fun H locs ls hw hk hS hl => by
  subst hp
  exact va_mmax hC.1 hC.2.1 (by rw [hC.2.2.1]; exact hl.1.symm) hC.2.2.2.1 (hC.w hlink rfl) (hC.w (w := .static Lib.Math.max.name) tw_347 rfl) (hC.w (w := .initialized "java/lang/Math") tw_17 rfl) (hC.w (w := .code Lib.Math.max.name Lib.Math.max.code 2 (some .int)) tw_348 rfl) hR.1 hR.2.1 hR.2.2.1 hR.2.2.2 hdg (kk H locs ls hw hk hS hl)
theorem s_min (hC : Cx p l e R s m args below meth c cc nL own g ω0 sz0) {index : Nat} {x y : Int32} (hlink : Cond.methodLink own index Lib.Math.min.name ∈ lw_tbl) (hR : 1 ≤ R.frames ∧ (rest.map fun v => v.category).sum + 13 ≤ R.locals ∧ k ≤ R.cells ∧ n ≤ R.slots) (hdg : decode cc pc = .ok (.invokestatic index, 3)) (hp : pc + 3 = pc') (kk : WP p l e R s m args below meth c g ω0 sz0 Q nL ω k n pc' L (.int (iMin x y) :: rest)) : WP p l e R s m args below meth c g ω0 sz0 Q nL ω k n pc L (.int y :: .int x :: rest) := fun H locs ls hw hk hS hl => by
  subst hp
  exact va_mmin hC.1 hC.2.1 (by rw [hC.2.2.1]; exact hl.1.symm) hC.2.2.2.1 (hC.w hlink rfl) (hC.w (w := .static Lib.Math.min.name) tw_679 rfl) (hC.w (w := .initialized "java/lang/Math") tw_17 rfl) (hC.w (w := .code Lib.Math.min.name Lib.Math.min.code 2 (some .int)) tw_680 rfl) hR.1 hR.2.1 hR.2.2.1 hR.2.2.2 hdg (kk H locs ls hw hk hS hl)
theorem s_abs (hC : Cx p l e R s m args below meth c cc nL own g ω0 sz0) {index : Nat} {x : Int32} (hlink : Cond.methodLink own index Lib.Math.abs.name ∈ lw_tbl) (hR : 1 ≤ R.frames ∧ (rest.map fun v => v.category).sum + 13 ≤ R.locals ∧ k ≤ R.cells ∧ n ≤ R.slots) (hdg : decode cc pc = .ok (.invokestatic index, 3)) (hp : pc + 3 = pc') (kk : WP p l e R s m args below meth c g ω0 sz0 Q nL ω k n pc' L (.int (iAbs x) :: rest)) : WP p l e R s m args below meth c g ω0 sz0 Q nL ω k n pc L (.int x :: rest) := fun H locs ls hw hk hS hl => by
  subst hp
  exact va_mabs hC.1 hC.2.1 (by rw [hC.2.2.1]; exact hl.1.symm) hC.2.2.2.1 (hC.w hlink rfl) (hC.w (w := .static Lib.Math.abs.name) tw_305 rfl) (hC.w (w := .initialized "java/lang/Math") tw_17 rfl) (hC.w (w := .code Lib.Math.abs.name Lib.Math.abs.code 1 (some .int)) tw_306 rfl) hR.1 hR.2.1 hR.2.2.1 hR.2.2.2 hdg (kk H locs ls hw hk hS hl)
end STEPS
/-- a contract out of a walk of the body -/
theorem CT.of {l : Launch} {g : Gl} {y : MethodName} {cc : ByteArray} {mL : Nat} {rt : Option FieldType} {fr lo mc ms : Nat} {As : List Value} {ω : Wd} {post : Option Value → Wd → Prop} {xp : String → Wd → Prop} {L0 : List (Nat × Value)} {own : String} (ho : y.cls = own) (hy : plainName y.cls = true) (hA : (lg_sl As).length ≤ mL) (hL0 : lv_args 0 As = L0)
    (body : ∀ p e s m args below meth c sz0, Cx p l e { frames := fr, cells := mc, slots := ms, locals := lo } s m args below meth c cc mL own g ω sz0 → meth.sig.returnType = rt → (∀ x ∈ c.exceptionTable.toList, False) → meth.name = y.name →
      WP p l e { frames := fr, cells := mc, slots := ms, locals := lo } s m args below meth c g ω sz0 (Qm below args s g ω sz0 post xp mc ms) mL ω 0 0 0 L0 []) : CT l g y cc mL rt fr lo mc ms As ω post xp := by
  subst ho
  intro sz
  refine vx_ofW (cc := cc) (maxL := mL) (ret := rt) hy rfl ?_
  intro p e s m args below meth c s₁ B hml htab hv
  obtain ⟨rfl, hsz, hw, hG, hz, hd⟩ := hv
  have hts := atoms_spec (ws := Cond.code y cc mL rt :: W0) B.pre
  have hC : Cx p l e { frames := fr, cells := mc, slots := ms, locals := lo } s m As.toArray below meth c cc mL y.cls g ω sz := ⟨B.exec, B.bytes, hml, findClass_of_methodNamed B.named, fun w hw => hts w (List.mem_cons_of_mem _ hw), hG, B.notSynchronized, hsz, hz, hd⟩
  have hl := lv_entry As (n := mL) hA
  rw [hL0] at hl
  rw [lg_entry_eq]
  exact body p e s m As.toArray below meth c sz hC B.returns htab (name_of_methodNamed B.named B.method).1 s.heap [] _ (wh_weak hw (fun a ha _ => Or.inl ha)) (kp_rf ω) va_S.rf hl
