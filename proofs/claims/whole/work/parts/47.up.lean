section VXPR
variable {p : Program} {l : Launch} {e : Env} {R : Room} {s : State} {m : MethodId} {args : Array Value} {below : List Frame} {meth : Method} {c : Code} {H : Heap} {locs : List Loc} {cells slots : Nat}
/-- a private method of a class above the receiver's -/
theorem vx_callVP {T : State} (X : Stand p l e R s m args below meth c T locs cells slots) (hexec : p.tables.exec = Jvm.exec) {own C : String} {index : Nat} {y : MethodName} {bytes : ByteArray} {maxL : Nat} {ret : Option FieldType}
    (hown : s.vm.findClass own = some m.cls) (hlink : (Cond.methodLink own index y).before args s = true) (hinst : (Cond.instanceMethod y).before args s = true) (hpriv : (Cond.privateMethod y).before args s = true) (hsame : (Cond.sameMethod y.cls y.cls y.name y.desc).before args s = true)
    (hcode : (Cond.code y bytes maxL ret).before args s = true) (hy : y.cls ≠ "java/lang/invoke/MethodHandle" ∧ y.cls ≠ "java/lang/invoke/VarHandle")
    {W9 : Nat} {Pre : Pt → Array Value → Prop} {Post : Pt → Array Value → Option Value → Pt → Prop} {PostX : Pt → Array Value → Addr → Pt → Prop} (hK : vx_Back l R p e below s args y 3 W9 Pre Post PostX)
    {b : Addr} {cellB : Cell} (hcell : T.heap[b]? = some cellB) (hobj : cellB.vm.isStatics = false)
    {g : JFrame} (hg : g.method = m) (hsize : g.locals.size = c.maxLocals) {argsL rest : List Value} (hlen : ∀ sig, parseMethodDescriptor y.desc = some sig → argsL.length = sig.parameters.length)
    (hstack : g.stack = argsL.reverse ++ .ref b :: rest) (hW : 2 * g.monitorRoom + (rest.map fun v => v.category).sum ≤ W9) (hdg : decode c.code g.pc = .ok (.invokevirtual index, 3))
    (hpre : ∀ vm₁, s.WarmedH vm₁ → Pre ⟨T.setVm vm₁, locs, cells, slots⟩ (Value.ref b :: argsL).toArray) :
    (∃ (v : Option Value) (vm₁ : Vm) (B : Pt), s.WarmedH vm₁ ∧ Stand p l e R s m args below meth c B.U B.locs B.cells B.slots ∧ Post ⟨T.setVm vm₁, locs, cells, slots⟩ (Value.ref b :: argsL).toArray v B ∧
      ∀ target, Steps p.tables e below (B.U.setTop { g with pc := g.pc + 3, stack := v.toList ++ rest }) target → Steps p.tables e below (T.setTop g) target) ∨
    (∃ (q : Addr) (vm₁ : Vm) (B : Pt), s.WarmedH vm₁ ∧ Stand p l e R s m args below meth c B.U B.locs B.cells B.slots ∧ PostX ⟨T.setVm vm₁, locs, cells, slots⟩ (Value.ref b :: argsL).toArray q B ∧
      Steps p.tables e below (T.setTop g) ((B.U.setTop { g with stack := rest }).pushFrame (.throwing q))) := by
  obtain ⟨mk, methM, hnamed, hmethM, hstM, habM⟩ := Cond.instanceMethod_spec hinst
  obtain ⟨methM', cM, hmethM', -, -, -, -, -, -, hsigM⟩ := Cond.code_spec hnamed hcode
  cases hmethM.symm.trans hmethM'
  obtain ⟨cn, kP, r1, hcn, hck, hkPi, -, hn1⟩ := Cond.sameMethod_found hsame
  have hn2 : s.methodNamed? y = some r1 := hn1
  cases hnamed.symm.trans hn2
  have hcm : cn = mk.cls := Option.some.inj (hcn.symm.trans (findClass_of_methodNamed hnamed))
  subst hcm
  have hselP : selectMethod e.platform s.vm cellB.cls mk = .method mk := selectMethod_private hmethM (Cond.privateMethod_at hpriv mk methM hnamed hmethM)
  obtain ⟨vm₁, X₁, hstep₁⟩ := X.invokevirtual hexec hown hlink hnamed hmethM hstM hck hkPi hy (a := b) (cell := cellB) hcell
    (fun z h => by rw [h] at hobj; cases hobj) hselP hmethM habM hck hkPi (g := g) hg (argsL := argsL) (rest := rest) (hlen _ hsigM) hstack hdg
  rcases hK m meth c ⟨T.setVm vm₁, locs, cells, slots⟩ { g with stack := rest } (.invokevirtual index) mk (Value.ref b :: argsL).toArray X₁ hg hsize hdg hW (X₁.named hnamed) (hpre vm₁ X₁.warmed) with ⟨v, B, X', hpost, hsteps⟩ | ⟨q, B, X', hpost, hsteps⟩
  · exact Or.inl ⟨v, vm₁, B, X₁.warmed, X', hpost, fun target h => hstep₁ _ fun acts => by rw [doInvoke_state]; exact hsteps.trans h⟩
  · exact Or.inr ⟨q, vm₁, B, X₁.warmed, X', hpost, hstep₁ _ fun acts => by rw [doInvoke_state]; exact hsteps⟩
theorem vx_runVP {y : MethodName} {bytes cc : ByteArray} {maxL nL mc ms n index : Nat} {ret : Option FieldType} {ws : List Cond} {rm : Room} {Pc : Array Value → State → Prop} {Qc : Array Value → State → Outcome → State → Prop} {XC : String → State → State → Prop} {free : Addr → Prop} {Ts : List Cond} {own C : String} {b : Addr} {As rest : List Value} {g : JFrame}
    (S : CallFix p m c cc nL s args Ts own) (hM : vx_Met l y ws rm Pc Qc XC mc ms free) (cw : CallB R s args own index y bytes maxL ret ws rm mc ms n) (hinst : (Cond.instanceMethod y).before args s = true) (hpriv : (Cond.privateMethod y).before args s = true) (hsame : (Cond.sameMethod y.cls y.cls y.name y.desc).before args s = true) (hp : PreV s H C b Pc As)
    (hg : g.method = m) (hn : As.length = n) (hsize : g.locals.size = nL) (hstack : g.stack = As.reverse ++ .ref b :: rest) (hW : 2 * g.monitorRoom + (rest.map fun v => v.category).sum ≤ 8) (hdg : decode cc g.pc = .ok (.invokevirtual index, 3)) (hf : cells + mc ≤ R.cells ∧ slots + ms ≤ R.slots) :
    vx_Run p l e R s m args below meth c H locs cells slots mc ms g rest (Qc (Value.ref b :: As).toArray) XC free := by
  have hK : vx_Back l R p e below s args y 3 8 (PreOf R mc ms Pc) (PostOf Qc mc ms free) (vx_Post XC mc ms free) := vx_callBack cw hM hp.1
  obtain ⟨-, -, -, -, -, -, hcode, -, hy, hlen, hl⟩ := cw
  obtain ⟨hx, hb, hml, ho, -⟩ := S
  obtain ⟨-, ⟨cellB, hcB, hoB, hclB⟩, hPc⟩ := hp
  intro T hT X
  rcases vx_callVP X hx (C := C) (bytes := bytes) (maxL := maxL) (ret := ret) ho hl hinst hpriv hsame hcode hy hK (by rw [hT]; exact hcB) hoB hg (hsize.trans hml.symm) (argsL := As) (rest := rest) (fun sig h => hn.trans (hlen sig h)) hstack hW (by rw [hb]; exact hdg)
    (fun vm₁ hW₁ => ⟨hf.1, hf.2, hPc (T.setVm vm₁) hT hW₁⟩) with ⟨v, vm₁, ⟨U', l2, c2, s2⟩, hW₁, X', ⟨g', mk, t, L, e1, e2, hq, h1, hL, h2, h3⟩, st⟩ | ⟨q, vm₁, ⟨U', l2, c2, s2⟩, hW₁, X', ⟨g', mk, t, L, E, ce, e1, e2, hq, hce, hcv, hcl, h1, hL, h2, h3⟩, st⟩
  · dsimp only [Pt.U, Pt.locs, Pt.cells, Pt.slots] at X' e1 e2 h1 h2 h3 st
    subst h1; subst h2; subst h3
    exact Or.inl ⟨v, (T.setVm vm₁).calling g' mk (Value.ref b :: As).toArray, t, U', L, hT, X', hL, e1, e2, hq, st⟩
  · dsimp only [Pt.U, Pt.locs, Pt.cells, Pt.slots] at X' e1 e2 h1 h2 h3 st hcl
    subst h1; subst h2; subst h3
    exact Or.inr ⟨q, (T.setVm vm₁).calling g' mk (Value.ref b :: As).toArray, t, U', L, E, ce, hT, X', hL, e1, e2, hq, hce, hcv, vx_cls hW₁ hcl, st⟩
end VXPR
/-- what the tables say of a callee: of a class above; private there; through super -/
def CeU (C : String) (y : MethodName) (bytes : ByteArray) (maxL : Nat) (ret : Option FieldType) (nA : Nat) : Prop := Cond.code y bytes maxL ret ∈ lw_tbl ∧ (Cond.instanceMethod y ∈ lw_tbl ∧ Cond.selects C y y ∈ lw_tbl) ∧ Cond.initialized y.cls ∈ lw_tbl ∧ (y.cls ≠ "java/lang/invoke/MethodHandle" ∧ y.cls ≠ "java/lang/invoke/VarHandle" ∧ (parseMethodDescriptor y.desc).map (fun d => d.parameters.length) = some nA)
def CeP (y : MethodName) (bytes : ByteArray) (maxL : Nat) (ret : Option FieldType) (nA : Nat) : Prop := Cond.code y bytes maxL ret ∈ lw_tbl ∧ (Cond.instanceMethod y ∈ lw_tbl ∧ Cond.privateMethod y ∈ lw_tbl ∧ Cond.sameMethod y.cls y.cls y.name y.desc ∈ lw_tbl) ∧ Cond.initialized y.cls ∈ lw_tbl ∧ (y.cls ≠ "java/lang/invoke/MethodHandle" ∧ y.cls ≠ "java/lang/invoke/VarHandle" ∧ (parseMethodDescriptor y.desc).map (fun d => d.parameters.length) = some nA)
def CeW (own : String) (y : MethodName) (bytes : ByteArray) (maxL : Nat) (ret : Option FieldType) (nA : Nat) : Prop := Cond.code y bytes maxL ret ∈ lw_tbl ∧ (Cond.instanceMethod y ∈ lw_tbl ∧ Cond.superclass own y.cls ∈ lw_tbl ∧ Cond.sameMethod y.cls y.cls y.name y.desc ∈ lw_tbl) ∧ Cond.initialized y.cls ∈ lw_tbl ∧ (y.name ≠ "<init>" ∧ (parseMethodDescriptor y.desc).map (fun d => d.parameters.length) = some nA)
section CALLU
variable {p : Program} {l : Launch} {e : Env} {R : Room} {s : State} {m : MethodId} {args : Array Value} {below : List Frame} {meth : Method} {c : Code} {cc : ByteArray} {nL : Nat} {own : String} {g : Gl} {ω0 : Wd} {sz0 : Nat} {Q : State → Prop} {ω : Wd} {k n pc pc' : Nat} {L : List (Nat × Value)} {rest : List Value}
variable {y : MethodName} {bytes : ByteArray} {maxL index nA fr1 lo1 mc1 ms1 : Nat} {ret : Option FieldType} {As : List Value} {post1 : Option Value → Wd → Prop} {xp1 : String → Wd → Prop}
theorem s_callU (hC : Cx p l e R s m args below meth c cc nL own g ω0 sz0) {b ci N : Nat} {C : String} {T : u_T} {ty : Nat → FieldType} {fs : List Value} (ct : CT l g y bytes maxL ret fr1 lo1 mc1 ms1 (.ref b :: As) ω post1 xp1) (ce : CeU C y bytes maxL ret nA) (cs : CS ci C T N ty) (he : ω b = some (.inr (ci, fs))) (hlink : Cond.methodLink own index y ∈ lw_tbl) {st : List Value} (hst : st = As.reverse ++ .ref b :: rest) (hnA : As.length = nA) (hR : (fr1 + 1 ≤ R.frames ∧ 8 + (maxL + 11) + lo1 ≤ R.locals) ∧ k + mc1 ≤ R.cells ∧ n + ms1 ≤ R.slots) (hrest : (rest.map fun v => v.category).sum ≤ 8) (hdg : decode cc pc = .ok (.invokevirtual index, 3)) (hp : pc + 3 = pc')
    (kk : ∀ r ω', post1 r ω' → WP p l e R s m args below meth c g ω0 sz0 Q nL ω' (k + mc1) (n + ms1) pc' L (r.toList ++ rest))
    (kx : ∀ E ω', xp1 E ω' → WX p l e R s m args below meth c g ω0 sz0 Q nL ω' (k + mc1) (n + ms1) pc L rest E) : WP p l e R s m args below meth c g ω0 sz0 Q nL ω k n pc L st := fun H locs ls hw hk hS hl =>
  wp_go hC hw hk hS hl (vx_runV (C := C) (As := As) (rest := rest) ⟨hC.1, hC.2.1, hC.2.2.1, hC.2.2.2.1, hC.2.2.2.2.1⟩ (ct H.size) ⟨callB0 hC ce.1 ce.2.2.1 ce.2.2.2 hlink hR.1, hC.w ce.2.1.1 rfl, hC.w ce.2.1.2 rfl⟩ ⟨Pcs_blind _ _, va_recv hC.2.2.2.2.2.1.1 (wh_one hw he) cs.1 (q0 := 0) rfl, Pcs_pre hC hw hS _⟩ rfl hnA hl.1 hst (lv_room hrest) hdg hR.2) hp kk kx
theorem s_callP (hC : Cx p l e R s m args below meth c cc nL own g ω0 sz0) {b ci N : Nat} {C : String} {T : u_T} {ty : Nat → FieldType} {fs : List Value} (ct : CT l g y bytes maxL ret fr1 lo1 mc1 ms1 (.ref b :: As) ω post1 xp1) (ce : CeP y bytes maxL ret nA) (cs : CS ci C T N ty) (he : ω b = some (.inr (ci, fs))) (hlink : Cond.methodLink own index y ∈ lw_tbl) {st : List Value} (hst : st = As.reverse ++ .ref b :: rest) (hnA : As.length = nA) (hR : (fr1 + 1 ≤ R.frames ∧ 8 + (maxL + 11) + lo1 ≤ R.locals) ∧ k + mc1 ≤ R.cells ∧ n + ms1 ≤ R.slots) (hrest : (rest.map fun v => v.category).sum ≤ 8) (hdg : decode cc pc = .ok (.invokevirtual index, 3)) (hp : pc + 3 = pc')
    (kk : ∀ r ω', post1 r ω' → WP p l e R s m args below meth c g ω0 sz0 Q nL ω' (k + mc1) (n + ms1) pc' L (r.toList ++ rest))
    (kx : ∀ E ω', xp1 E ω' → WX p l e R s m args below meth c g ω0 sz0 Q nL ω' (k + mc1) (n + ms1) pc L rest E) : WP p l e R s m args below meth c g ω0 sz0 Q nL ω k n pc L st := fun H locs ls hw hk hS hl =>
  wp_go hC hw hk hS hl (vx_runVP (C := C) (As := As) (rest := rest) ⟨hC.1, hC.2.1, hC.2.2.1, hC.2.2.2.1, hC.2.2.2.2.1⟩ (ct H.size) (callB0 hC ce.1 ce.2.2.1 ce.2.2.2 hlink hR.1) (hC.w ce.2.1.1 rfl) (hC.n ce.2.1.2.1 rfl) (hC.w ce.2.1.2.2 rfl) ⟨Pcs_blind _ _, va_recv hC.2.2.2.2.2.1.1 (wh_one hw he) cs.1 (q0 := 0) rfl, Pcs_pre hC hw hS _⟩ rfl hnA hl.1 hst (lv_room hrest) hdg hR.2) hp kk kx
theorem s_callW (hC : Cx p l e R s m args below meth c cc nL own g ω0 sz0) {b ci N : Nat} {C : String} {T : u_T} {ty : Nat → FieldType} {fs : List Value} (ct : CT l g y bytes maxL ret fr1 lo1 mc1 ms1 (.ref b :: As) ω post1 xp1) (ce : CeW own y bytes maxL ret nA) (cs : CS ci C T N ty) (he : ω b = some (.inr (ci, fs))) (hlink : Cond.methodLink own index y ∈ lw_tbl) {st : List Value} (hst : st = As.reverse ++ .ref b :: rest) (hnA : As.length = nA) (hR : (fr1 + 1 ≤ R.frames ∧ 8 + (maxL + 11) + lo1 ≤ R.locals) ∧ k + mc1 ≤ R.cells ∧ n + ms1 ≤ R.slots) (hrest : (rest.map fun v => v.category).sum ≤ 8) (hdg : decode cc pc = .ok (.invokespecial index, 3)) (hp : pc + 3 = pc')
    (kk : ∀ r ω', post1 r ω' → WP p l e R s m args below meth c g ω0 sz0 Q nL ω' (k + mc1) (n + ms1) pc' L (r.toList ++ rest))
    (kx : ∀ E ω', xp1 E ω' → WX p l e R s m args below meth c g ω0 sz0 Q nL ω' (k + mc1) (n + ms1) pc L rest E) : WP p l e R s m args below meth c g ω0 sz0 Q nL ω k n pc L st := fun H locs ls hw hk hS hl =>
  wp_go hC hw hk hS hl (vx_runSU (C := C) (As := As) (rest := rest) (hC.2.2.2.2.2.1.1.1 ci _ cs.1).2 ⟨hC.1, hC.2.1, hC.2.2.1, hC.2.2.2.1, hC.2.2.2.2.1⟩ (ct H.size) (va_cwSU nA hC.2.2.2.2.1 (fun w hw9 => by
      simp only [va_wsSU, List.cons_append, List.nil_append, List.mem_cons] at hw9
      rcases hw9 with rfl | rfl | rfl | rfl | rfl | hw9
      · exact ⟨W0_in hlink rfl, Or.inl rfl⟩
      · exact ⟨W0_in ce.2.1.2.2 rfl, Or.inl rfl⟩
      · exact ⟨W0_in ce.2.1.2.1 rfl, Or.inl rfl⟩
      · exact ⟨W0_in ce.2.1.1 rfl, Or.inl rfl⟩
      · exact ⟨W0_in ce.2.2.1 rfl, Or.inl rfl⟩
      · exact goodC ce.1 w (List.mem_cons.mpr hw9)) rfl rfl rfl ce.2.2.2 hR.1) ⟨Pcs_blind _ _, va_recv hC.2.2.2.2.2.1.1 (wh_one hw he) cs.1 (q0 := 0) rfl, Pcs_pre hC hw hS _⟩ rfl hnA hl.1 hst (lv_room hrest) hdg hR.2) hp kk kx
/-- a method of a class above that the receiver's class overrides -/
theorem s_callO (hC : Cx p l e R s m args below meth c cc nL own g ω0 sz0) {x : MethodName} {b ci N : Nat} {C : String} {T : u_T} {ty : Nat → FieldType} {fs : List Value} (ct : CT l g y bytes maxL ret fr1 lo1 mc1 ms1 (.ref b :: As) ω post1 xp1) (hc : Cond.code y bytes maxL ret ∈ lw_tbl) (hsm : Cond.sameMethod x.cls x.cls x.name x.desc ∈ lw_tbl) (hix : Cond.instanceMethod x ∈ lw_tbl) (hse : Cond.selects C x y ∈ lw_tbl) (hin : Cond.instanceMethod y ∈ lw_tbl) (hi : Cond.initialized y.cls ∈ lw_tbl) {b0 : ByteArray} {m0 : Nat} {r0 : Option FieldType} (h0 : Cond.code x b0 m0 r0 ∈ lw_tbl) (hd : x.cls ≠ "java/lang/invoke/MethodHandle" ∧ x.cls ≠ "java/lang/invoke/VarHandle" ∧ (parseMethodDescriptor x.desc).map (fun d => d.parameters.length) = some nA) (cs : CS ci C T N ty) (he : ω b = some (.inr (ci, fs))) (hlink : Cond.methodLink own index x ∈ lw_tbl) {st : List Value} (hst : st = As.reverse ++ .ref b :: rest) (hnA : As.length = nA) (hR : (fr1 + 1 ≤ R.frames ∧ 8 + (maxL + 11) + lo1 ≤ R.locals) ∧ k + mc1 ≤ R.cells ∧ n + ms1 ≤ R.slots) (hrest : (rest.map fun v => v.category).sum ≤ 8) (hdg : decode cc pc = .ok (.invokevirtual index, 3)) (hp : pc + 3 = pc')
    (kk : ∀ r ω', post1 r ω' → WP p l e R s m args below meth c g ω0 sz0 Q nL ω' (k + mc1) (n + ms1) pc' L (r.toList ++ rest))
    (kx : ∀ E ω', xp1 E ω' → WX p l e R s m args below meth c g ω0 sz0 Q nL ω' (k + mc1) (n + ms1) pc L rest E) : WP p l e R s m args below meth c g ω0 sz0 Q nL ω k n pc L st := fun H locs ls hw hk hS hl =>
  wp_go hC hw hk hS hl (vx_runU (C := C) (x := x) (owner := x.cls) (As := As) (rest := rest) ⟨hC.1, hC.2.1, hC.2.2.1, hC.2.2.2.1, hC.2.2.2.2.1⟩ (ct H.size) (va_cwO nA hC.2.2.2.2.1 (fun w hw9 => by
      simp only [va_wsO, List.cons_append, List.nil_append, List.mem_cons] at hw9
      rcases hw9 with rfl | rfl | rfl | rfl | rfl | rfl | hw9
      · exact ⟨W0_in hlink rfl, Or.inl rfl⟩
      · exact ⟨W0_in hsm rfl, Or.inl rfl⟩
      · exact ⟨W0_in hix rfl, Or.inl rfl⟩
      · exact ⟨W0_in hse rfl, Or.inl rfl⟩
      · exact ⟨W0_in hin rfl, Or.inl rfl⟩
      · exact ⟨W0_in hi rfl, Or.inl rfl⟩
      · exact goodC hc w (List.mem_cons.mpr hw9)) rfl rfl rfl (W0_in h0 rfl) hd hR.1) ⟨Pcs_blind _ _, va_recv hC.2.2.2.2.2.1.1 (wh_one hw he) cs.1 (q0 := 0) rfl, Pcs_pre hC hw hS _⟩ rfl hnA hl.1 hst (lv_room hrest) hdg hR.2) hp kk kx
end CALLU
