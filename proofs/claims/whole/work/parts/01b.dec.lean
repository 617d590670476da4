/-! the tables of 01 against the Statement: instructions, links, methods -/
def ts_bt (m : Nat) : ByteArray := (ts_mi.getD m ts_mx).2.1
def ts_y (m : Nat) : MethodName := (ts_mi.getD m ts_mx).1
def ts_rt1 (m : Nat) : Option FieldType := (ts_mi.getD m ts_mx).2.2.2.1
def ts_own (m : Nat) : String := ts_cn.getD (ts_mc m) ""
/-- how long an instruction is -/
def ts_len (i : Instr) : Nat := match i with
  | .bipush _ | .ldc _ | .iload _ | .lload _ | .aload _ | .istore _ | .lstore _ | .astore _ | .newarray _ => 2
  | .sipush _ | .ldc_w _ | .ldc2_w _ | .iinc _ _ | .goto _ | .ifCond _ _ | .if_icmp _ _ | .getstatic _ | .getfield _ | .putfield _ | .new _ | .anewarray _ | .invokevirtual _ | .invokestatic _ | .invokespecial _ => 3
  | .multianewarray _ _ => 4
  | _ => 1
def ts_chk (b : ByteArray) (q : Nat × Instr × Nat × Nat) : Bool := decide (decode b q.1 = .ok (q.2.1, q.2.2.1 - q.1)) && decide (q.1 < q.2.2.1) && (match q.2.1 with
  | .tableswitch _ _ _ _ => true
  | .lookupswitch _ _ => true
  | i => decide (q.2.2.1 = q.1 + ts_len i)) && (match q.2.1 with
  | .goto o => decide ((q.1 : Int) + o = (q.2.2.2 : Int))
  | .ifCond _ o => decide ((q.1 : Int) + o = (q.2.2.2 : Int))
  | .if_icmp _ o => decide ((q.1 : Int) + o = (q.2.2.2 : Int))
  | .tableswitch d lo hi offs => decide (0 ≤ (q.1 : Int) + d) && offs.all (fun o => decide (0 ≤ (q.1 : Int) + o)) && decide (hi - lo < offs.size)
  | .lookupswitch d ps => decide (0 ≤ (q.1 : Int) + d) && ps.all (fun o => decide (0 ≤ (q.1 : Int) + o.2)) && (ps.toList.zip (ps.toList.drop 1)).all (fun (a, next) => a.1 < next.1)
  | _ => true)
def ts_chkM (m : Nat) : Bool := (ts_LL.getD m []).all (ts_chk (ts_bt m))
theorem ts_ch0 : (List.range' 0 13).all ts_chkM = true := by decide +kernel
theorem ts_ch1 : (List.range' 13 5).all ts_chkM = true := by decide +kernel
theorem ts_ch2 : (List.range' 18 11).all ts_chkM = true := by decide +kernel
theorem ts_ch3 : (List.range' 29 7).all ts_chkM = true := by decide +kernel
theorem ts_ch4 : (List.range' 36 5).all ts_chkM = true := by decide +kernel
theorem ts_ch5 : (List.range' 41 7).all ts_chkM = true := by decide +kernel
theorem ts_ch6 : (List.range' 48 7).all ts_chkM = true := by decide +kernel
theorem ts_ch7 : (List.range' 55 15).all ts_chkM = true := by decide +kernel
theorem ts_ch8 : (List.range' 70 8).all ts_chkM = true := by decide +kernel
theorem ts_ch9 : (List.range' 78 8).all ts_chkM = true := by decide +kernel
theorem ts_ch10 : (List.range' 86 5).all ts_chkM = true := by decide +kernel
theorem ts_ch11 : (List.range' 91 4).all ts_chkM = true := by decide +kernel
theorem ts_ch12 : (List.range' 95 9).all ts_chkM = true := by decide +kernel
theorem ts_ch13 : (List.range' 104 9).all ts_chkM = true := by decide +kernel
theorem ts_ch14 : (List.range' 113 7).all ts_chkM = true := by decide +kernel
theorem ts_ch15 : (List.range' 120 7).all ts_chkM = true := by decide +kernel
theorem ts_ch16 : (List.range' 127 14).all ts_chkM = true := by decide +kernel
theorem ts_ch17 : (List.range' 141 6).all ts_chkM = true := by decide +kernel
theorem ts_ch18 : (List.range' 147 8).all ts_chkM = true := by decide +kernel
theorem ts_ch19 : (List.range' 155 10).all ts_chkM = true := by decide +kernel
theorem ts_ch20 : (List.range' 165 5).all ts_chkM = true := by decide +kernel
theorem ts_ch21 : (List.range' 170 7).all ts_chkM = true := by decide +kernel
theorem ts_ch22 : (List.range' 177 3).all ts_chkM = true := by decide +kernel
theorem ts_ch23 : (List.range' 180 4).all ts_chkM = true := by decide +kernel
theorem ts_ch24 : (List.range' 184 6).all ts_chkM = true := by decide +kernel
theorem ts_ch25 : (List.range' 190 6).all ts_chkM = true := by decide +kernel
theorem ts_ch26 : (List.range' 196 7).all ts_chkM = true := by decide +kernel
theorem ts_ch27 : (List.range' 203 6).all ts_chkM = true := by decide +kernel
theorem ts_ch28 : (List.range' 209 2).all ts_chkM = true := by decide +kernel
theorem ts_ch29 : (List.range' 211 2).all ts_chkM = true := by decide +kernel
theorem ts_ch30 : (List.range' 213 9).all ts_chkM = true := by decide +kernel
theorem ts_ch31 : (List.range' 222 8).all ts_chkM = true := by decide +kernel
theorem ts_ch32 : (List.range' 230 6).all ts_chkM = true := by decide +kernel
theorem ts_ch33 : (List.range' 236 2).all ts_chkM = true := by decide +kernel
theorem ts_chl0 : ts_L238_0.all (ts_chk code) = true := by decide +kernel
theorem ts_chl1 : ts_L238_1.all (ts_chk code) = true := by decide +kernel
theorem ts_chl2 : ts_L238_2.all (ts_chk code) = true := by decide +kernel
theorem ts_chl3 : ts_L238_3.all (ts_chk code) = true := by decide +kernel
theorem ts_chl4 : ts_L238_4.all (ts_chk code) = true := by decide +kernel
theorem ts_chl5 : ts_L238_5.all (ts_chk code) = true := by decide +kernel
theorem ts_chl6 : ts_L238_6.all (ts_chk code) = true := by decide +kernel
theorem ts_chl7 : ts_L238_7.all (ts_chk code) = true := by decide +kernel
theorem ts_chl8 : ts_L238_8.all (ts_chk code) = true := by decide +kernel
theorem ts_chl9 : ts_L238_9.all (ts_chk code) = true := by decide +kernel
theorem ts_chl10 : ts_L238_10.all (ts_chk code) = true := by decide +kernel
theorem ts_chl11 : ts_L238_11.all (ts_chk code) = true := by decide +kernel
theorem ts_chl12 : ts_L238_12.all (ts_chk code) = true := by decide +kernel
theorem ts_chl13 : ts_L238_13.all (ts_chk code) = true := by decide +kernel
theorem ts_chl14 : ts_L238_14.all (ts_chk code) = true := by decide +kernel
theorem ts_chl15 : ts_L238_15.all (ts_chk code) = true := by decide +kernel
theorem ts_chl16 : ts_L238_16.all (ts_chk code) = true := by decide +kernel
theorem ts_ch34 : (List.range' 238 1).all ts_chkM = true := by
  show (ts_L238.all (ts_chk code) && true) = true
  simp only [ts_L238, List.all_append, Bool.and_true, ts_chl0, ts_chl1, ts_chl2, ts_chl3, ts_chl4, ts_chl5, ts_chl6, ts_chl7, ts_chl8, ts_chl9, ts_chl10, ts_chl11, ts_chl12, ts_chl13, ts_chl14, ts_chl15, ts_chl16]
theorem ts_ch35 : (List.range' 239 11).all ts_chkM = true := by decide +kernel
