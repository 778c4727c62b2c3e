/-! ===== an exception caught by the one row of a method's table ===== -/
theorem xc_go {Q : Handler → Pre} {E : CtlPost} {e : Env} {d : Bool} {acts : List Action} {s : State} {f : JFrame} {a : Addr} {x : ExceptionTableEntry} {c : ClassId} {cell : Cell} {k1 k2 : Class} (hx : covers x f.pc = true) (h0 : x.catchType ≠ 0)
    (hl : s.vm.ClassLinks e.platform f.method.cls x.catchType c) (hcell : s.heap[a]? = some cell) (hv : cell.vm = .none) (hk1 : s.vm.classes[cell.cls]? = some k1) (hk2 : s.vm.classes[c]? = some k2) (hfit : s.vm.assignable cell.cls c = true) :
    wp (findHandler.go f a [x]) Q E e d acts s ↔ Q (.found x.handlerPc) d acts (s.setVm (s.vm.noted f.method.cls x.catchType (.cls c))) := by
  have h9 : s.vm.Alike (s.vm.noted f.method.cls x.catchType (.cls c)) := (Vm.Alike.refl s.vm).noted _ _ _
  obtain ⟨r1, r2⟩ := (resolveClass_links e.toSetting hl).op (op := VmOp.resolveClass f.method.cls x.catchType) rfl
  obtain ⟨u1, hu1, -⟩ := h9.2.2 _ _ hk1
  obtain ⟨u2, hu2, -⟩ := h9.2.2 _ _ hk2
  have hf9 : (s.vm.noted f.method.cls x.catchType (.cls c)).assignable cell.cls c = true := by rw [h9.assignable]; exact hfit
  simp only [covers] at hx
  simp [findHandler.go, hx, h0, r1, r2, hcell, hv, hu1, hu2, hf9, VmOp.dirties, VmOp.acts]
theorem xc_catch {p : Program} {l : Launch} {e : Env} {R : Room} {s : State} {m : MethodId} {args : Array Value} {below : List Frame} {meth : Method} {c : Code} {H : Heap} {locs : List Loc} {cells slots : Nat} {Q : State → Prop} {pc : Nat} {ls : Array Slot} {rest : List Value}
    {own name E : String} {ce : Cell} {q : Addr} {x : ExceptionTableEntry} (hown : s.vm.findClass own = some m.cls) (htab : c.exceptionTable.toList = [x]) (hx : covers x pc = true) (h0 : x.catchType ≠ 0)
    (hlink : (Cond.classLink own x.catchType name).before args s = true) (hcast : (Cond.castable E name).before args s = true) (hcell : H[q]? = some ce) (hv : ce.vm = .none) (hcl : s.vm.findClass E = some ce.cls)
    (kk : W p l e R s m args below meth c H locs cells slots Q (F0 m x.handlerPc ls [.ref q])) : vx_W p l e R s m args below meth c H locs cells slots Q (F0 m pc ls rest) q := by
  intro T hT X
  have hpl : e.platform.magicAccessors = ({} : Platform).magicAccessors := by rw [X.admits.platform]
  obtain ⟨cE, cN, h1, h2, hasg⟩ := Cond.castable_spec hcast
  have hE : cE = ce.cls := Option.some.inj (h1.symm.trans hcl)
  obtain ⟨c5, h5, hl5⟩ := Cond.classLink_spec hown hlink e.platform hpl
  have hN : c5 = cN := Option.some.inj (h5.symm.trans h2)
  rw [hE] at hasg
  rw [hN] at hl5
  have hW := X.warmed
  have hal := hW.alike
  obtain ⟨dk, _, _, kt, hd, _, _, _, _, hkt, _, hopen⟩ := hl5.here
  have hW2 : s.WarmedH (T.vm.noted m.cls x.catchType (.cls cN)) := hW.noted hd hopen (State.rightAt_cls hl5)
  obtain ⟨t, a1, b1⟩ := kk (T.setVm (T.vm.noted m.cls x.catchType (.cls cN))) hT (X.noted hW2)
  refine ⟨t, Steps.trans ?_ a1, b1⟩
  have hat : At T (F0 m pc ls rest).method c below := X.here
  obtain ⟨hgo, hin⟩ := hat.throwing q
  refine Steps.head hgo hin ?_
  rw [stepThread_throwing (frames_entered hat.top _)]
  have hfind : ∀ (Q : Handler → Pre) (E : CtlPost) (d : Bool) (acts : List Action), wp (findHandler (F0 m pc ls rest) q) Q E e d acts ((T.setTop (F0 m pc ls rest)).pushFrame (.throwing q)) ↔ Q (.found x.handlerPc) d acts (((T.setTop (F0 m pc ls rest)).pushFrame (.throwing q)).setVm (T.vm.noted m.cls x.catchType (.cls cN))) := by
    intro Q E d acts
    rw [W.findHandler_eq (s := (T.setTop (F0 m pc ls rest)).pushFrame (.throwing q)) (f := F0 m pc ls rest) X.method' X.code, htab]
    obtain ⟨k2, hk2, -⟩ := hal.2.2 _ _ hkt
    obtain ⟨k0, hk0⟩ := Vm.classAt_of_findClass hcl
    obtain ⟨k1, hk1, -⟩ := hal.2.2 _ _ hk0
    exact xc_go (s := (T.setTop (F0 m pc ls rest)).pushFrame (.throwing q)) (f := F0 m pc ls rest) (c := cN) hx h0 (hW.classLinks hl5) (show T.heap[q]? = some ce by rw [hT]; exact hcell) hv hk1 hk2 (show T.vm.assignable ce.cls cN = true by rw [hal.assignable]; exact hasg)
  have hstep : (stepThrowing e ((T.setTop (F0 m pc ls rest)).pushFrame (.throwing q)) q (.java (F0 m pc ls rest) :: T.frames.tail)).Is ((((T.setTop (F0 m pc ls rest)).pushFrame (.throwing q)).setVm (T.vm.noted m.cls x.catchType (.cls cN))).setFrames (.java (F0 m x.handlerPc ls [.ref q]) :: T.frames.tail)) [] := by
    simp only [stepThrowing, searchFrame, vmDo]
    generalize hr : Sem.go _ e false [] ((T.setTop (F0 m pc ls rest)).pushFrame (.throwing q)) = res
    obtain ⟨as, rfl, ha⟩ := Sem.eq_ok_of hr (a := Handler.found x.handlerPc) (s' := ((T.setTop (F0 m pc ls rest)).pushFrame (.throwing q)).setVm (T.vm.noted m.cls x.catchType (.cls cN))) (acts' := []) (by simp [hfind _ _ _ _])
    exact ⟨rfl, ha⟩
  rw [hstep.1]
  obtain ⟨g0, hg0⟩ := Option.isSome_iff_exists.mp hat.top
  obtain ⟨r, hr⟩ := State.topJava?_eq_some.mp hg0
  have hr2 : (T.setVm (T.vm.noted m.cls x.catchType (.cls cN))).frames = .java g0 :: r := hr
  rw [State.setTop_of_frames _ hr2]
  have e1 : (((T.setTop (F0 m pc ls rest)).pushFrame (.throwing q)).setVm (T.vm.noted m.cls x.catchType (.cls cN))).setFrames (.java (F0 m x.handlerPc ls [.ref q]) :: T.frames.tail) = (T.setVm (T.vm.noted m.cls x.catchType (.cls cN))).setFrames (.java (F0 m x.handlerPc ls [.ref q]) :: r) := by
    rw [hr, List.tail_cons, State.pushFrame, State.setTop_of_frames _ hr, State.setFrames_setFrames]
    show ((T.setVm (T.vm.noted m.cls x.catchType (.cls cN))).setFrames _).setFrames _ = _
    rw [State.setFrames_setFrames]
  rw [e1]
  exact Steps.refl _
