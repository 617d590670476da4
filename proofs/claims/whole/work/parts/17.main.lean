/-! the simple machine's runs are the machine's -/
section MAIN
variable {p : Program} {l : Launch} {e : Env} {Rm : Room} {s : State} {mi : MethodId} {args : Array Value} {below : List Frame} {meth : Method} {c : Code} {Qf : State → Prop} {D : va_G} {b0 m d : Nat} {E : ts_S} {cA0 : Nat → ClassId} {ad0 : Nat → Nat} {X : ts_X} {C : ts_C} {K : Option Value → ts_H → Prop}
set_option maxHeartbeats 4000000 in
theorem ts_step_sound (Fx : ts_Fx p Rm s mi args meth c b0 X ad0 m d) (hSnd : ts_Snd l D b0 X C d) (Hr : ts_Hr p l e Rm s mi args below meth c Qf D b0 m E cA0 ad0 K) (pc : Nat) (lv st : List Value) (h : ts_H) (H0 : ts_F X C m E K (ts_Ws p l e Rm s mi args below meth c Qf D b0 m E cA0 ad0) pc lv st h) : ts_Ws p l e Rm s mi args below meth c Qf D b0 m E cA0 ad0 pc lv st h := by
  unfold ts_F at H0
  split at H0
  · exact H0.elim
  · rename_i i nx tg hi
    cases i
    case iconst => exact sd_iconst Fx hi H0
    case bipush => exact sd_bipush Fx hi H0
    case sipush => exact sd_sipush Fx hi H0
    case lconst => exact sd_lconst Fx hi H0
    case ldc => exact sd_ldc Fx hi H0
    case ldc_w => exact sd_ldc_w Fx hi H0
    case ldc2_w => exact sd_ldc2_w Fx hi H0
    case iload => exact sd_iload Fx hi H0
    case lload => exact sd_lload Fx hi H0
    case aload => exact sd_aload Fx hi H0
    case iload_n => exact sd_iload_n Fx hi H0
    case lload_n => exact sd_lload_n Fx hi H0
    case aload_n => exact sd_aload_n Fx hi H0
    case istore => exact sd_istore Fx hi H0
    case lstore => exact sd_lstore Fx hi H0
    case astore => exact sd_astore Fx hi H0
    case istore_n => exact sd_istore_n Fx hi H0
    case lstore_n => exact sd_lstore_n Fx hi H0
    case astore_n => exact sd_astore_n Fx hi H0
    case iinc => exact sd_iinc Fx hi H0
    case iadd => exact sd_iadd Fx hi H0
    case isub => exact sd_isub Fx hi H0
    case imul => exact sd_imul Fx hi H0
    case iand => exact sd_iand Fx hi H0
    case ior => exact sd_ior Fx hi H0
    case ixor => exact sd_ixor Fx hi H0
    case ishl => exact sd_ishl Fx hi H0
    case ishr => exact sd_ishr Fx hi H0
    case iushr => exact sd_iushr Fx hi H0
    case idiv => exact sd_idiv Fx hi H0
    case irem => exact sd_irem Fx hi H0
    case ineg => exact sd_ineg Fx hi H0
    case ladd => exact sd_ladd Fx hi H0
    case lmul => exact sd_lmul Fx hi H0
    case ldiv => exact sd_ldiv Fx hi H0
    case lrem => exact sd_lrem Fx hi H0
    case land => exact sd_land Fx hi H0
    case lor => exact sd_lor Fx hi H0
    case lshl => exact sd_lshl Fx hi H0
    case lcmp => exact sd_lcmp Fx hi H0
    case i2l => exact sd_i2l Fx hi H0
    case l2i => exact sd_l2i Fx hi H0
    case i2b => exact sd_i2b Fx hi H0
    case i2s => exact sd_i2s Fx hi H0
    case i2c => exact sd_i2c Fx hi H0
    case dup => exact sd_dup Fx hi H0
    case dup2 => exact sd_dup2 Fx hi H0
    case pop => exact sd_pop Fx hi H0
    case goto => exact sd_goto Fx hi H0
    case ifCond => exact sd_ifCond Fx hi H0
    case if_icmp => exact sd_if_icmp Fx hi H0
    case tableswitch => exact sd_tableswitch Fx hi H0
    case lookupswitch => exact sd_lookupswitch Fx hi H0
    case getstatic => exact sd_getstatic Fx hi H0
    case getfield => exact sd_getfield Fx hi H0
    case putfield => exact sd_putfield Fx hi H0
    case iaload => exact sd_iaload Fx hi H0
    case laload => exact sd_laload Fx hi H0
    case aaload => exact sd_aaload Fx hi H0
    case baload => exact sd_baload Fx hi H0
    case iastore => exact sd_iastore Fx hi H0
    case lastore => exact sd_lastore Fx hi H0
    case aastore => exact sd_aastore Fx hi H0
    case arraylength => exact sd_arraylength Fx hi H0
    case new => exact sd_new Fx hi H0
    case newarray => exact sd_newarray Fx hi H0
    case anewarray => exact sd_anewarray Fx hi H0
    case multianewarray => exact sd_multianewarray Fx hi H0
    case invokevirtual => exact sd_invokevirtual Fx hSnd hi H0
    case invokestatic => exact sd_invokestatic Fx hSnd hi H0
    case invokespecial => exact sd_invokespecial Fx hSnd hi H0
    case ireturn => exact sd_ireturn Hr Fx hi H0
    case lreturn => exact sd_lreturn Hr Fx hi H0
    case areturn => exact sd_areturn Hr Fx hi H0
    case return_ => exact sd_return_ Hr Fx hi H0
    all_goals exact False.elim H0
theorem ts_Ev_sound (Fx : ts_Fx p Rm s mi args meth c b0 X ad0 m d) (hSnd : ts_Snd l D b0 X C d) (Hr : ts_Hr p l e Rm s mi args below meth c Qf D b0 m E cA0 ad0 K) {pc : Nat} {lv st : List Value} {h : ts_H} (H0 : ts_Ev X C m E K pc lv st h) : ts_Ws p l e Rm s mi args below meth c Qf D b0 m E cA0 ad0 pc lv st h := H0 _ (ts_step_sound Fx hSnd Hr)
end MAIN
theorem ts_lay_sl (ad : Nat → Nat) : ∀ vs : List Value, (lg_sl (vs.map (ts_tr ad))).length = (ts_lay vs).length
  | [] => rfl
  | v :: l => by
    have ih := ts_lay_sl ad l
    have e : lg_sl ((v :: l).map (ts_tr ad)) = lg_sl [ts_tr ad v] ++ lg_sl (l.map (ts_tr ad)) := by
      simp [lg_sl]
    rw [e, List.length_append, ih]
    show _ = (if v.category = 2 then v :: .null :: ts_lay l else v :: ts_lay l).length
    cases v <;> simp [lg_sl, ts_tr, Value.category] <;> omega
/-- a method's end on the machine -/
theorem ts_Hr_met {p : Program} {l : Launch} {e : Env} {Rm : Room} {s : State} {mi : MethodId} {args : Array Value} {below : List Frame} {meth : Method} {c : Code} {D : va_G} {b0 m : Nat} {h0 : ts_H} {cA0 : Nat → ClassId} {ad0 : Nat → Nat} {K : Option Value → ts_H → Prop} (hx : p.tables.exec = Jvm.exec) (hb : c.code = ts_bt m) (hr : meth.sig.returnType = ts_rt1 m) (hlocks : meth.locks = false) : ts_Hr p l e Rm s mi args below meth c (MQ below (ts_Qc D b0 cA0 ad0 h0 m K) args s (ts_mk m).1 (ts_mk m).2 (ts_A b0)) D b0 m h0.2.2.2 cA0 ad0 K := by
  intro i r pc h cA ad H locs ls hdec hisr hret hk hK hP hD hS hg
  obtain ⟨g1, g2, g3, g4, g5, g6⟩ := hg
  obtain ⟨hty, hlen, hsz⟩ := hret
  rw [show h.2.2.2.length - h0.2.2.2.length = (ts_mk m).1 by omega, show ts_sz h.2.2.2 - ts_sz h0.2.2.2 = (ts_mk m).2 by omega]
  have hq : ∀ t : State, t.heap = H → s.WarmedH t.vm → ts_Qc D b0 cA0 ad0 h0 m K args s (.returned (r.map (ts_tr ad))) t := fun t ht hW => ⟨⟨r, h, cA, ad, rfl, hk, g1, fun q => g2 (by omega), hlen, hsz, va_K.moved hW.alike hK, by rw [ht]; exact hP, hD⟩, hS.F ht⟩
  rcases hisr with ⟨rfl, v, rfl⟩ | ⟨rfl, v, rfl⟩ | ⟨rfl, v, rfl⟩ | ⟨rfl, rfl⟩
  · obtain ⟨ty, e1, e2⟩ := hty
    exact W.zret hx hb (hr.trans e1) e2 hq hS.2.2 hdec hlocks
  · exact W.lret hx hb (hr.trans hty) hq hS.2.2 hdec hlocks
  · obtain ⟨ty, e1, e2⟩ := hty
    exact W.aret hx hb (hr.trans e1) e2 (Or.inr ⟨_, rfl⟩) hq hS.2.2 hdec hlocks
  · exact W.vret hx hb (hr.trans hty) hq hS.2.2 hdec hlocks
/-- SOUNDNESS: a call of the simple machine is a contract of the machine -/
theorem ts_snd (l : Launch) (D : va_G) (b0 : Nat) (X : ts_X) : ∀ d, ts_Snd l D b0 X (ts_Cal X d) d
  | 0 => fun m vs h K cA ad _ _ H => H.elim
  | d + 1 => fun m vs h K cA ad hm hm2 H => by
    obtain ⟨hlen, H⟩ := H
    obtain ⟨m1, m2, m3, m4, m5, m6⟩ := ts_mr_all hm hm2
    refine Met.ofW (cc := ts_bt m) (maxL := ts_ml m) (ret := ts_rt1 m) m1 rfl ?_
    intro p e s mi args below meth c s₁ B hml hv
    obtain ⟨rfl, hb0, hK, hP, hD, hZ⟩ := hv
    have hx := B.exec
    have hb := B.bytes
    have hr := B.returns
    have hts := atoms_spec (ws := ts_ws m) B.pre
    have hown : s.vm.findClass (ts_y m).cls = some mi.cls := findClass_of_methodNamed B.named
    have hlocks := B.notSynchronized
    have hin : meth.name = (ts_y m).name := (name_of_methodNamed B.named B.method).1
    rw [m2] at hown
    have hl := lv_entry (vs.map (ts_tr ad)) (n := ts_ml m) (by rw [ts_lay_sl]; exact hlen)
    rw [lg_entry_eq]
    generalize (lg_sl (vs.map (ts_tr ad)) ++ List.replicate (ts_ml m - (lg_sl (vs.map (ts_tr ad))).length) Slot.unset).toArray = ls at hl ⊢
    have Fx : ts_Fx p (headSpec (ts_ws m) (ts_rm m (d + 1))).room s mi (vs.map (ts_tr ad)).toArray meth c b0 X ad m d := ⟨hx, hb, hml, hown, fun w hw => hts w (List.mem_cons_of_mem _ hw), hb0, hZ, fun q => hin.trans q, Nat.le_refl _, Nat.le_refl _, Nat.le_refl _, Nat.le_refl _⟩
    have hfin := ts_Ev_sound (below := below) (e := e) Fx (ts_snd l D b0 X d) (ts_Hr_met hx hb hr hlocks) H cA ad s.heap [] ls hK hP hD va_S.rf (ts_lok_entry hlen hl) ⟨fun _ _ => rfl, fun _ => ⟨rfl, rfl⟩, Nat.le_refl _, Nat.le_refl _, Nat.le_add_right _ _, Nat.le_add_right _ _⟩
    rw [Nat.sub_self, Nat.sub_self] at hfin
    exact hfin
