noncomputable def F_L_law_1114 (G : Gx) (k18 : Hp → Nat → Nat → Nat → Int32 → Rz Int32) (h : Hp) (nx : Nat) (l1 : Nat) (l2 : Nat) (l3 : Int32) : Rz Int32 :=
nm (l3 + (nI 5)) (fun v1 =>
(k18 h nx l1 l2 v1))
set_option maxRecDepth 100000 in
set_option maxHeartbeats 4000000 in
theorem k_L_law_1114 {G : Gx} {d : Nat} {v' : Int32} {h' : Hp} {n' : Nat} {n : Nat} {k18 : Hp → Nat → Nat → Nat → Int32 → Rz Int32} (K18 : ∀ {kc ks : Nat} (hk : kc + 10 * n ≤ 600000) (hs : ks + 420 * n ≤ 7302250) {h : Hp} {nx : Nat} {l1 : Nat} {l2 : Nat} {l3 : Int32}, k18 h nx l1 l2 l3 = some (v', h', n') → Ok G mL_law (d + 141) (Same (some (.int v')) h' n') 18 [some (.ref (g_b G)), some (.ref l1), some (.ref l2), some (.int l3)] [] h nx kc ks) {kc ks : Nat} (hk : kc + 10 * n ≤ 600000) (hs : ks + 420 * n ≤ 7302250) {h : Hp} {nx : Nat} {l1 : Nat} {l2 : Nat} {l3 : Int32} (e : F_L_law_1114 G k18 h nx l1 l2 l3 = some (v', h', n')) : Ok G mL_law (d + 141) (Same (some (.int v')) h' n') 1114 [some (.ref (g_b G)), some (.ref l1), some (.ref l2), some (.int l3)] [] h nx kc ks := by
  unfold F_L_law_1114 at e
  refine X.iinc dL_law_1114 rfl (by decide) (by decide +kernel) e (L := fun v1 => [some (.ref (g_b G)), some (.ref l1), some (.ref l2), some (.int v1)]) (fun _ => rfl) (fun v1 e1 => ?_)
  clear e
  refine Ok.goto (tgt := 18) dL_law_1117 (by decide) ?_
  exact Ok.weakL (K18 (by omega) (by omega) e1) ⟨rfl, ⟨rfl, ⟨rfl, ⟨rfl, trivial⟩⟩⟩⟩
noncomputable def F_L_law_423 (G : Gx) (k18 : Hp → Nat → Nat → Nat → Int32 → Rz Int32) (h : Hp) (nx : Nat) (s0 : Int32) (s1 : Nat) (s2 : Int32) (s3 : Int32) (l1 : Nat) (l2 : Nat) (l3 : Int32) : Rz Int32 :=
ck h s1 [12] (fun _ =>
cl (F_X12_seen G h nx s1 s2 s3) (fun r1 h2 n3 =>
if s0 = r1 then
(F_L_law_1114 G k18 h2 n3 l1 l2 l3)
else
zk (nI 0) (some ((nI 0), h2, n3))))
set_option maxRecDepth 100000 in
set_option maxHeartbeats 4000000 in
theorem k_L_law_423 {G : Gx} {d : Nat} {v' : Int32} {h' : Hp} {n' : Nat} {n : Nat} {k18 : Hp → Nat → Nat → Nat → Int32 → Rz Int32} (K18 : ∀ {kc ks : Nat} (hk : kc + 10 * n ≤ 600000) (hs : ks + 420 * n ≤ 7302250) {h : Hp} {nx : Nat} {l1 : Nat} {l2 : Nat} {l3 : Int32}, k18 h nx l1 l2 l3 = some (v', h', n') → Ok G mL_law (d + 141) (Same (some (.int v')) h' n') 18 [some (.ref (g_b G)), some (.ref l1), some (.ref l2), some (.int l3)] [] h nx kc ks) {kc ks : Nat} (hk : kc + 10 * n ≤ 600000) (hs : ks + 420 * n ≤ 7302250) {h : Hp} {nx : Nat} {s0 : Int32} {s1 : Nat} {s2 : Int32} {s3 : Int32} {l1 : Nat} {l2 : Nat} {l3 : Int32} (e : F_L_law_423 G k18 h nx s0 s1 s2 s3 l1 l2 l3 = some (v', h', n')) : Ok G mL_law (d + 141) (Same (some (.int v')) h' n') 423 [some (.ref (g_b G)), some (.ref l1), some (.ref l2), some (.int l3)] [.int s3, .int s2, .ref s1, .int s0] h nx kc ks := by
  unfold F_L_law_423 at e
  refine X.rck e (fun c fs hb hc e1 => ?_)
  clear e
  obtain rfl := List.mem_singleton.mp hc
  refine X.callV (My := mX12_seen) (n := 2) (As := [.int s2, .int s3]) (T := (fun v => (some (.int v)))) (stk' := (fun v => [.int v, .int s0])) (rest := [.int s0]) (kc' := kc) (ks' := ks) dL_law_423 e1 (fun v h n e => k_X12_seen (d := d + 138) e) hb rfl wd1306 wd80 wd1304 wd1305 wd1303 (by decide +kernel) rfl (by decide) rfl rfl (Nat.le_of_ble_eq_true rfl) (by show kc ≤ 600000; omega) (by show ks ≤ 7302250; omega) rfl rfl (fun _ => rfl) (fun r1 h2 n3 e2 => ?_)
  clear e1
  refine X.icmp_eq (tgt := 1114) dL_law_426 (by decide) e2 (fun e3 => ?_) (fun e3 => ?_)
  · clear e2
    exact Ok.weakL (k_L_law_1114 (d := d) K18 (by omega) (by omega) e3) ⟨rfl, ⟨rfl, ⟨rfl, ⟨rfl, trivial⟩⟩⟩⟩
  · clear e2
    refine Ok.iconstV (v := (nI 0)) dL_law_429 (by decide +kernel) ?_
    exact X.zret dL_law_430 rfl (by show kc ≤ 600000; omega) (by show ks ≤ 7302250; omega) e3
noncomputable def F_L_law_401 (G : Gx) (k18 : Hp → Nat → Nat → Nat → Int32 → Rz Int32) (h : Hp) (nx : Nat) (s0 : Nat) (s1 : Int32) (s2 : Int32) (l1 : Nat) (l2 : Nat) (l3 : Int32) : Rz Int32 :=
ck h s0 [11] (fun _ =>
cl (F_X11_seen G h nx s0 s1 s2) (fun r1 h2 n3 =>
slI G ((l3 + (nI 1))) (fun v4 =>
slI G ((l3 + (nI 2))) (fun v5 =>
if v5 = 0 then
(F_L_law_423 G k18 h2 n3 r1 l2 v4 (nI 0) l1 l2 l3)
else
(F_L_law_423 G k18 h2 n3 r1 l2 v4 (nI 1) l1 l2 l3)))))
set_option maxRecDepth 100000 in
set_option maxHeartbeats 4000000 in
theorem k_L_law_401 {G : Gx} {d : Nat} {v' : Int32} {h' : Hp} {n' : Nat} {n : Nat} {k18 : Hp → Nat → Nat → Nat → Int32 → Rz Int32} (K18 : ∀ {kc ks : Nat} (hk : kc + 10 * n ≤ 600000) (hs : ks + 420 * n ≤ 7302250) {h : Hp} {nx : Nat} {l1 : Nat} {l2 : Nat} {l3 : Int32}, k18 h nx l1 l2 l3 = some (v', h', n') → Ok G mL_law (d + 141) (Same (some (.int v')) h' n') 18 [some (.ref (g_b G)), some (.ref l1), some (.ref l2), some (.int l3)] [] h nx kc ks) {kc ks : Nat} (hk : kc + 10 * n ≤ 600000) (hs : ks + 420 * n ≤ 7302250) {h : Hp} {nx : Nat} {s0 : Nat} {s1 : Int32} {s2 : Int32} {l1 : Nat} {l2 : Nat} {l3 : Int32} (e : F_L_law_401 G k18 h nx s0 s1 s2 l1 l2 l3 = some (v', h', n')) : Ok G mL_law (d + 141) (Same (some (.int v')) h' n') 401 [some (.ref (g_b G)), some (.ref l1), some (.ref l2), some (.int l3)] [.int s2, .int s1, .ref s0] h nx kc ks := by
  unfold F_L_law_401 at e
  refine X.rck e (fun c fs hb hc e1 => ?_)
  clear e
  obtain rfl := List.mem_singleton.mp hc
  refine X.callV (My := mX11_seen) (n := 2) (As := [.int s1, .int s2]) (T := (fun v => (some (.int v)))) (stk' := (fun v => [.int v])) (rest := []) (kc' := kc) (ks' := ks) dL_law_401 e1 (fun v h n e => k_X11_seen (d := d + 139) e) hb rfl wd544 wd76 wd542 wd543 wd541 (by decide +kernel) rfl (by decide) rfl rfl (Nat.le_of_ble_eq_true rfl) (by show kc ≤ 600000; omega) (by show ks ≤ 7302250; omega) rfl rfl (fun _ => rfl) (fun r1 h2 n3 e2 => ?_)
  clear e1
  refine Ok.aload_n dL_law_404 rfl ?_
  refine Ok.aload_n dL_law_405 rfl ?_
  refine Ok.iload_n dL_law_406 rfl ?_
  refine Ok.iconstV (v := (nI 1)) dL_law_407 (by decide +kernel) ?_
  refine Ok.iadd dL_law_408 ?_
  refine X.sld dL_law_409 e2 (fun v4 e3 => ?_)
  clear e2
  refine Ok.aload_n dL_law_410 rfl ?_
  refine Ok.iload_n dL_law_411 rfl ?_
  refine Ok.iconstV (v := (nI 2)) dL_law_412 (by decide +kernel) ?_
  refine Ok.iadd dL_law_413 ?_
  refine X.sld dL_law_414 e3 (fun v5 e4 => ?_)
  clear e3
  refine X.if_eq (tgt := 422) dL_law_415 (by decide) e4 (fun e5 => ?_) (fun e5 => ?_)
  · clear e4
    refine Ok.iconstV (v := (nI 0)) dL_law_422 (by decide +kernel) ?_
    exact Ok.weakL (k_L_law_423 (d := d) K18 (by omega) (by omega) e5) ⟨rfl, ⟨rfl, ⟨rfl, ⟨rfl, trivial⟩⟩⟩⟩
  · clear e4
    refine Ok.iconstV (v := (nI 1)) dL_law_418 (by decide +kernel) ?_
    refine Ok.goto (tgt := 423) dL_law_419 (by decide) ?_
    exact Ok.weakL (k_L_law_423 (d := d) K18 (by omega) (by omega) e5) ⟨rfl, ⟨rfl, ⟨rfl, ⟨rfl, trivial⟩⟩⟩⟩
noncomputable def F_L_law_18 (G : Gx) : Nat → Hp → Nat → Nat → Nat → Int32 → Rz Int32 := fun n => Nat.rec (motive := fun _ => Hp → Nat → Nat → Nat → Int32 → Rz Int32) (fun _ _ _ _ _ => none) (fun _ k18 => fun h nx l1 l2 l3 =>
if (((nI (g_L G)) - (nI 5))) < l3 then
zk (nI 1) (some ((nI 1), h, nx))
else
slI G l3 (fun v1 =>
if ((v1 &&& (nI 31))) = (nI 0) then
slI G ((l3 + (nI 1))) (fun v2 =>
slI G ((l3 + (nI 2))) (fun v3 =>
slI G ((l3 + (nI 3))) (fun v4 =>
ck h l1 [11] (fun _ =>
cl (F_X11_feed G h nx l1 (((((v2.toInt64) <<< ((nI 32).toInt64 &&& 63))) ||| (((v3.toInt64) &&& (4294967295 : Int64))))) v4) (fun r5 h6 n7 =>
slI G ((l3 + (nI 1))) (fun v8 =>
slI G ((l3 + (nI 2))) (fun v9 =>
slI G ((l3 + (nI 3))) (fun v10 =>
ck h6 l2 [12] (fun _ =>
cl (F_X12_feed G h6 n7 l2 (((((v8.toInt64) <<< ((nI 32).toInt64 &&& 63))) ||| (((v9.toInt64) &&& (4294967295 : Int64))))) v10) (fun r11 h12 n13 =>
if r5 = r11 then
(F_L_law_1114 G k18 h12 n13 l1 l2 l3)
else
zk (nI 0) (some ((nI 0), h12, n13))))))))))))
else
if ((v1 &&& (nI 31))) = (nI 1) then
ck h l1 [11] (fun _ =>
cl (F_X11_sort G h nx l1) (fun r14 h15 n16 =>
ck h15 l2 [12] (fun _ =>
cl (F_X12_sort G h15 n16 l2) (fun r17 h18 n19 =>
if r14 = r17 then
(F_L_law_1114 G k18 h18 n19 l1 l2 l3)
else
zk (nI 0) (some ((nI 0), h18, n19))))))
else
if ((v1 &&& (nI 31))) = (nI 2) then
slI G ((l3 + (nI 1))) (fun v20 =>
slI G ((l3 + (nI 2))) (fun v21 =>
slI G ((l3 + (nI 3))) (fun v22 =>
slI G ((l3 + (nI 4))) (fun v23 =>
ck h l1 [11] (fun _ =>
cl (F_X11_told G h nx l1 v20 v21 v22 v23) (fun r24 h25 n26 =>
slI G ((l3 + (nI 1))) (fun v27 =>
slI G ((l3 + (nI 2))) (fun v28 =>
slI G ((l3 + (nI 3))) (fun v29 =>
slI G ((l3 + (nI 4))) (fun v30 =>
ck h25 l2 [12] (fun _ =>
cl (F_X12_told G h25 n26 l2 v27 v28 v29 v30) (fun r31 h32 n33 =>
if r24 = r31 then
(F_L_law_1114 G k18 h32 n33 l1 l2 l3)
else
zk (nI 0) (some ((nI 0), h32, n33))))))))))))))
else
if ((v1 &&& (nI 31))) = (nI 3) then
slI G ((l3 + (nI 1))) (fun v34 =>
slI G ((l3 + (nI 2))) (fun v35 =>
ck h l1 [11] (fun _ =>
cl (F_X11_thing G h nx l1 v34 v35) (fun r36 h37 n38 =>
slI G ((l3 + (nI 1))) (fun v39 =>
slI G ((l3 + (nI 2))) (fun v40 =>
ck h37 l2 [12] (fun _ =>
cl (F_X12_thing G h37 n38 l2 v39 v40) (fun r41 h42 n43 =>
if r36 = r41 then
(F_L_law_1114 G k18 h42 n43 l1 l2 l3)
else
zk (nI 0) (some ((nI 0), h42, n43))))))))))
else
if ((v1 &&& (nI 31))) = (nI 4) then
slI G ((l3 + (nI 1))) (fun v44 =>
slI G ((l3 + (nI 2))) (fun v45 =>
ck h l1 [11] (fun _ =>
cl (F_X11_of G h nx l1 v44 v45) (fun r46 h47 n48 =>
slI G ((l3 + (nI 1))) (fun v49 =>
slI G ((l3 + (nI 2))) (fun v50 =>
ck h47 l2 [12] (fun _ =>
cl (F_X12_of G h47 n48 l2 v49 v50) (fun r51 h52 n53 =>
if r46 = r51 then
(F_L_law_1114 G k18 h52 n53 l1 l2 l3)
else
zk (nI 0) (some ((nI 0), h52, n53))))))))))
else
if ((v1 &&& (nI 31))) = (nI 5) then
slI G ((l3 + (nI 1))) (fun v54 =>
ck h l1 [11] (fun _ =>
cl (F_X11_days G h nx l1 v54) (fun r55 h56 n57 =>
slI G ((l3 + (nI 1))) (fun v58 =>
ck h56 l2 [12] (fun _ =>
cl (F_X12_days G h56 n57 l2 v58) (fun r59 h60 n61 =>
if r55 = r59 then
(F_L_law_1114 G k18 h60 n61 l1 l2 l3)
else
zk (nI 0) (some ((nI 0), h60, n61))))))))
else
if ((v1 &&& (nI 31))) = (nI 6) then
slI G ((l3 + (nI 1))) (fun v62 =>
slI G ((l3 + (nI 2))) (fun v63 =>
if v63 = 0 then
(F_L_law_401 G k18 h nx l1 v62 (nI 0) l1 l2 l3)
else
(F_L_law_401 G k18 h nx l1 v62 (nI 1) l1 l2 l3)))
else
if ((v1 &&& (nI 31))) = (nI 7) then
slI G ((l3 + (nI 1))) (fun v64 =>
slI G ((l3 + (nI 2))) (fun v65 =>
slI G ((l3 + (nI 3))) (fun v66 =>
slI G ((l3 + (nI 4))) (fun v67 =>
ck h l1 [11] (fun _ =>
cl (F_X11_best G h nx l1 v64 v65 v66 v67) (fun r68 h69 n70 =>
slI G ((l3 + (nI 1))) (fun v71 =>
slI G ((l3 + (nI 2))) (fun v72 =>
slI G ((l3 + (nI 3))) (fun v73 =>
slI G ((l3 + (nI 4))) (fun v74 =>
ck h69 l2 [12] (fun _ =>
cl (F_X12_best G h69 n70 l2 v71 v72 v73 v74) (fun r75 h76 n77 =>
if ((lg_cmp r68 r75)) = 0 then
(F_L_law_1114 G k18 h76 n77 l1 l2 l3)
else
zk (nI 0) (some ((nI 0), h76, n77))))))))))))))
else
if ((v1 &&& (nI 31))) = (nI 8) then
slI G ((l3 + (nI 1))) (fun v78 =>
slI G ((l3 + (nI 2))) (fun v79 =>
ck h l1 [11] (fun _ =>
cl (F_X11_number G h nx l1 v78 v79) (fun r80 h81 n82 =>
slI G ((l3 + (nI 1))) (fun v83 =>
slI G ((l3 + (nI 2))) (fun v84 =>
ck h81 l2 [12] (fun _ =>
cl (F_X12_number G h81 n82 l2 v83 v84) (fun r85 h86 n87 =>
if r80 = r85 then
(F_L_law_1114 G k18 h86 n87 l1 l2 l3)
else
zk (nI 0) (some ((nI 0), h86, n87))))))))))
else
if ((v1 &&& (nI 31))) = (nI 9) then
slI G ((l3 + (nI 1))) (fun v88 =>
slI G ((l3 + (nI 2))) (fun v89 =>
ck h l1 [11] (fun _ =>
cl (F_X11_such G h nx l1 v88 v89) (fun r90 h91 n92 =>
slI G ((l3 + (nI 1))) (fun v93 =>
slI G ((l3 + (nI 2))) (fun v94 =>
ck h91 l2 [12] (fun _ =>
cl (F_X12_such G h91 n92 l2 v93 v94) (fun r95 h96 n97 =>
if r90 = r95 then
(F_L_law_1114 G k18 h96 n97 l1 l2 l3)
else
zk (nI 0) (some ((nI 0), h96, n97))))))))))
else
if ((v1 &&& (nI 31))) = (nI 10) then
slI G ((l3 + (nI 1))) (fun v98 =>
ck h l1 [11] (fun _ =>
cl (F_X11_looks G h nx l1 v98) (fun r99 h100 n101 =>
slI G ((l3 + (nI 1))) (fun v102 =>
ck h100 l2 [12] (fun _ =>
cl (F_X12_looks G h100 n101 l2 v102) (fun r103 h104 n105 =>
if r99 = r103 then
(F_L_law_1114 G k18 h104 n105 l1 l2 l3)
else
zk (nI 0) (some ((nI 0), h104, n105))))))))
else
if ((v1 &&& (nI 31))) = (nI 11) then
slI G ((l3 + (nI 1))) (fun v106 =>
slI G ((l3 + (nI 2))) (fun v107 =>
ck h l1 [11] (fun _ =>
cl (F_X11_plan G h nx l1 v106 v107) (fun r108 h109 n110 =>
slI G ((l3 + (nI 1))) (fun v111 =>
slI G ((l3 + (nI 2))) (fun v112 =>
ck h109 l2 [12] (fun _ =>
cl (F_X12_plan G h109 n110 l2 v111 v112) (fun r113 h114 n115 =>
if r108 = r113 then
(F_L_law_1114 G k18 h114 n115 l1 l2 l3)
else
zk (nI 0) (some ((nI 0), h114, n115))))))))))
else
if ((v1 &&& (nI 31))) = (nI 12) then
slI G ((l3 + (nI 1))) (fun v116 =>
slI G ((l3 + (nI 2))) (fun v117 =>
ck h l1 [11] (fun _ =>
cl (F_X11_row G h nx l1 v116 v117) (fun r118 h119 n120 =>
slI G ((l3 + (nI 1))) (fun v121 =>
slI G ((l3 + (nI 2))) (fun v122 =>
ck h119 l2 [12] (fun _ =>
cl (F_X12_row G h119 n120 l2 v121 v122) (fun r123 h124 n125 =>
if r118 = r123 then
(F_L_law_1114 G k18 h124 n125 l1 l2 l3)
else
zk (nI 0) (some ((nI 0), h124, n125))))))))))
else
if ((v1 &&& (nI 31))) = (nI 13) then
slI G ((l3 + (nI 1))) (fun v126 =>
ck h l1 [11] (fun _ =>
cl (F_X11_whom G h nx l1 v126) (fun r127 h128 n129 =>
slI G ((l3 + (nI 1))) (fun v130 =>
ck h128 l2 [12] (fun _ =>
cl (F_X12_whom G h128 n129 l2 v130) (fun r131 h132 n133 =>
if r127 = r131 then
(F_L_law_1114 G k18 h132 n133 l1 l2 l3)
else
zk (nI 0) (some ((nI 0), h132, n133))))))))
else
if ((v1 &&& (nI 31))) = (nI 14) then
slI G ((l3 + (nI 1))) (fun v134 =>
slI G ((l3 + (nI 2))) (fun v135 =>
ck h l1 [11] (fun _ =>
cl (F_X11_mean G h nx l1 v134 v135) (fun r136 h137 n138 =>
slI G ((l3 + (nI 1))) (fun v139 =>
slI G ((l3 + (nI 2))) (fun v140 =>
ck h137 l2 [12] (fun _ =>
cl (F_X12_mean G h137 n138 l2 v139 v140) (fun r141 h142 n143 =>
if ((lg_cmp r136 r141)) = 0 then
(F_L_law_1114 G k18 h142 n143 l1 l2 l3)
else
zk (nI 0) (some ((nI 0), h142, n143))))))))))
else
if ((v1 &&& (nI 31))) = (nI 15) then
slI G ((l3 + (nI 1))) (fun v144 =>
slI G ((l3 + (nI 2))) (fun v145 =>
ck h l1 [11] (fun _ =>
cl (F_X11_all G h nx l1 v144 v145) (fun r146 h147 n148 =>
slI G ((l3 + (nI 1))) (fun v149 =>
slI G ((l3 + (nI 2))) (fun v150 =>
ck h147 l2 [12] (fun _ =>
cl (F_X12_all G h147 n148 l2 v149 v150) (fun r151 h152 n153 =>
if ((lg_cmp r146 r151)) = 0 then
(F_L_law_1114 G k18 h152 n153 l1 l2 l3)
else
zk (nI 0) (some ((nI 0), h152, n153))))))))))
else
if ((v1 &&& (nI 31))) = (nI 16) then
slI G ((l3 + (nI 1))) (fun v154 =>
slI G ((l3 + (nI 2))) (fun v155 =>
ck h l1 [11] (fun _ =>
cl (F_X11_loses G h nx l1 v154 v155) (fun r156 h157 n158 =>
slI G ((l3 + (nI 1))) (fun v159 =>
slI G ((l3 + (nI 2))) (fun v160 =>
ck h157 l2 [12] (fun _ =>
cl (F_X12_loses G h157 n158 l2 v159 v160) (fun r161 h162 n163 =>
if ((lg_cmp r156 r161)) = 0 then
(F_L_law_1114 G k18 h162 n163 l1 l2 l3)
else
zk (nI 0) (some ((nI 0), h162, n163))))))))))
else
if ((v1 &&& (nI 31))) = (nI 17) then
slI G ((l3 + (nI 1))) (fun v164 =>
ck h l1 [11] (fun _ =>
cl (F_X11_bound G h nx l1 v164) (fun r165 h166 n167 =>
slI G ((l3 + (nI 1))) (fun v168 =>
ck h166 l2 [12] (fun _ =>
cl (F_X12_bound G h166 n167 l2 v168) (fun r169 h170 n171 =>
if ((lg_cmp r165 r169)) = 0 then
(F_L_law_1114 G k18 h170 n171 l1 l2 l3)
else
zk (nI 0) (some ((nI 0), h170, n171))))))))
else
if ((v1 &&& (nI 31))) = (nI 18) then
slI G ((l3 + (nI 1))) (fun v172 =>
slI G ((l3 + (nI 2))) (fun v173 =>
ck h l1 [11] (fun _ =>
cl (F_X11_judged G h nx l1 v172 v173) (fun r174 h175 n176 =>
slI G ((l3 + (nI 1))) (fun v177 =>
slI G ((l3 + (nI 2))) (fun v178 =>
ck h175 l2 [12] (fun _ =>
cl (F_X12_judged G h175 n176 l2 v177 v178) (fun r179 h180 n181 =>
if r174 = r179 then
(F_L_law_1114 G k18 h180 n181 l1 l2 l3)
else
zk (nI 0) (some ((nI 0), h180, n181))))))))))
else
if ((v1 &&& (nI 31))) = (nI 19) then
slI G ((l3 + (nI 1))) (fun v182 =>
slI G ((l3 + (nI 2))) (fun v183 =>
slI G ((l3 + (nI 3))) (fun v184 =>
ck h l1 [11] (fun _ =>
cl (F_X11_run G h nx l1 v182 v183 v184) (fun r185 h186 n187 =>
slI G ((l3 + (nI 1))) (fun v188 =>
slI G ((l3 + (nI 2))) (fun v189 =>
slI G ((l3 + (nI 3))) (fun v190 =>
ck h186 l2 [12] (fun _ =>
cl (F_X12_run G h186 n187 l2 v188 v189 v190) (fun r191 h192 n193 =>
if ((lg_cmp r185 r191)) = 0 then
(F_L_law_1114 G k18 h192 n193 l1 l2 l3)
else
zk (nI 0) (some ((nI 0), h192, n193))))))))))))
else
if ((v1 &&& (nI 31))) = (nI 20) then
slI G ((l3 + (nI 1))) (fun v194 =>
slI G ((l3 + (nI 2))) (fun v195 =>
ck h l1 [11] (fun _ =>
cl (F_X11_round G h nx l1 v194 v195) (fun r196 h197 n198 =>
slI G ((l3 + (nI 1))) (fun v199 =>
slI G ((l3 + (nI 2))) (fun v200 =>
ck h197 l2 [12] (fun _ =>
cl (F_X12_round G h197 n198 l2 v199 v200) (fun r201 h202 n203 =>
if ((lg_cmp r196 r201)) = 0 then
(F_L_law_1114 G k18 h202 n203 l1 l2 l3)
else
zk (nI 0) (some ((nI 0), h202, n203))))))))))
else
if ((v1 &&& (nI 31))) = (nI 21) then
slI G ((l3 + (nI 1))) (fun v204 =>
slI G ((l3 + (nI 2))) (fun v205 =>
ck h l1 [11] (fun _ =>
cl (F_X11_tour G h nx l1 v204 v205) (fun r206 h207 n208 =>
slI G ((l3 + (nI 1))) (fun v209 =>
slI G ((l3 + (nI 2))) (fun v210 =>
ck h207 l2 [12] (fun _ =>
cl (F_X12_tour G h207 n208 l2 v209 v210) (fun r211 h212 n213 =>
if r206 = r211 then
(F_L_law_1114 G k18 h212 n213 l1 l2 l3)
else
zk (nI 0) (some ((nI 0), h212, n213))))))))))
else
if ((v1 &&& (nI 31))) = (nI 22) then
slI G ((l3 + (nI 1))) (fun v214 =>
slI G ((l3 + (nI 2))) (fun v215 =>
ck h l1 [11] (fun _ =>
cl (F_X11_edge G h nx l1 v214 v215) (fun r216 h217 n218 =>
slI G ((l3 + (nI 1))) (fun v219 =>
slI G ((l3 + (nI 2))) (fun v220 =>
ck h217 l2 [12] (fun _ =>
cl (F_X12_edge G h217 n218 l2 v219 v220) (fun r221 h222 n223 =>
if r216 = r221 then
(F_L_law_1114 G k18 h222 n223 l1 l2 l3)
else
zk (nI 0) (some ((nI 0), h222, n223))))))))))
else
if ((v1 &&& (nI 31))) = (nI 23) then
slI G ((l3 + (nI 1))) (fun v224 =>
slI G ((l3 + (nI 2))) (fun v225 =>
slI G ((l3 + (nI 3))) (fun v226 =>
ck h l1 [11] (fun _ =>
cl (F_X11_act G h nx l1 v224 v225 v226) (fun r227 h228 n229 =>
slI G ((l3 + (nI 1))) (fun v230 =>
slI G ((l3 + (nI 2))) (fun v231 =>
slI G ((l3 + (nI 3))) (fun v232 =>
ck h228 l2 [12] (fun _ =>
cl (F_X12_act G h228 n229 l2 v230 v231 v232) (fun r233 h234 n235 =>
if r227 = r233 then
(F_L_law_1114 G k18 h234 n235 l1 l2 l3)
else
zk (nI 0) (some ((nI 0), h234, n235))))))))))))
else
if ((v1 &&& (nI 31))) = (nI 24) then
slI G ((l3 + (nI 1))) (fun v236 =>
ck h l1 [11] (fun _ =>
cl (F_X11_trace G h nx l1 v236) (fun r237 h238 n239 =>
slI G ((l3 + (nI 1))) (fun v240 =>
ck h238 l2 [12] (fun _ =>
cl (F_X12_trace G h238 n239 l2 v240) (fun r241 h242 n243 =>
if r237 = r241 then
(F_L_law_1114 G k18 h242 n243 l1 l2 l3)
else
zk (nI 0) (some ((nI 0), h242, n243))))))))
else
if ((v1 &&& (nI 31))) = (nI 25) then
slI G ((l3 + (nI 1))) (fun v244 =>
slI G ((l3 + (nI 2))) (fun v245 =>
ck h l1 [11] (fun _ =>
cl (F_X11_as G h nx l1 v244 v245) (fun r246 h247 n248 =>
slI G ((l3 + (nI 1))) (fun v249 =>
slI G ((l3 + (nI 2))) (fun v250 =>
ck h247 l2 [12] (fun _ =>
cl (F_X12_as G h247 n248 l2 v249 v250) (fun r251 h252 n253 =>
if r246 = r251 then
(F_L_law_1114 G k18 h252 n253 l1 l2 l3)
else
zk (nI 0) (some ((nI 0), h252, n253))))))))))
else
if ((v1 &&& (nI 31))) = (nI 26) then
ck h l1 [11] (fun _ =>
cl (F_X11_image G h nx l1) (fun r254 h255 n256 =>
ck h255 l2 [12] (fun _ =>
cl (F_X12_image G h255 n256 l2) (fun r257 h258 n259 =>
if r254 = r257 then
(F_L_law_1114 G k18 h258 n259 l1 l2 l3)
else
zk (nI 0) (some ((nI 0), h258, n259))))))
else
if ((v1 &&& (nI 31))) = (nI 27) then
ck h l1 [11] (fun _ =>
cl (F_X11_undo G h nx l1) (fun r260 h261 n262 =>
ck h261 l2 [12] (fun _ =>
cl (F_X12_undo G h261 n262 l2) (fun r263 h264 n265 =>
if r260 = r263 then
(F_L_law_1114 G k18 h264 n265 l1 l2 l3)
else
zk (nI 0) (some ((nI 0), h264, n265))))))
else
if ((v1 &&& (nI 31))) = (nI 28) then
slI G ((l3 + (nI 1))) (fun v266 =>
ck h l1 [11] (fun _ =>
cl (F_X11_count G h nx l1 v266) (fun r267 h268 n269 =>
slI G ((l3 + (nI 1))) (fun v270 =>
ck h268 l2 [12] (fun _ =>
cl (F_X12_count G h268 n269 l2 v270) (fun r271 h272 n273 =>
if r267 = r271 then
(F_L_law_1114 G k18 h272 n273 l1 l2 l3)
else
zk (nI 0) (some ((nI 0), h272, n273))))))))
else
(F_L_law_1114 G k18 h nx l1 l2 l3))) n
theorem F_L_law_18_0 {G : Gx} {h : Hp} {nx : Nat} {l1 : Nat} {l2 : Nat} {l3 : Int32} : F_L_law_18 G 0 h nx l1 l2 l3 = none := rfl
theorem F_L_law_18_s {G : Gx} {n : Nat} {h : Hp} {nx : Nat} {l1 : Nat} {l2 : Nat} {l3 : Int32} : F_L_law_18 G (n + 1) h nx l1 l2 l3 = (
if (((nI (g_L G)) - (nI 5))) < l3 then
zk (nI 1) (some ((nI 1), h, nx))
else
slI G l3 (fun v1 =>
if ((v1 &&& (nI 31))) = (nI 0) then
slI G ((l3 + (nI 1))) (fun v2 =>
slI G ((l3 + (nI 2))) (fun v3 =>
slI G ((l3 + (nI 3))) (fun v4 =>
ck h l1 [11] (fun _ =>
cl (F_X11_feed G h nx l1 (((((v2.toInt64) <<< ((nI 32).toInt64 &&& 63))) ||| (((v3.toInt64) &&& (4294967295 : Int64))))) v4) (fun r5 h6 n7 =>
slI G ((l3 + (nI 1))) (fun v8 =>
slI G ((l3 + (nI 2))) (fun v9 =>
slI G ((l3 + (nI 3))) (fun v10 =>
ck h6 l2 [12] (fun _ =>
cl (F_X12_feed G h6 n7 l2 (((((v8.toInt64) <<< ((nI 32).toInt64 &&& 63))) ||| (((v9.toInt64) &&& (4294967295 : Int64))))) v10) (fun r11 h12 n13 =>
if r5 = r11 then
(F_L_law_1114 G (F_L_law_18 G n) h12 n13 l1 l2 l3)
else
zk (nI 0) (some ((nI 0), h12, n13))))))))))))
else
if ((v1 &&& (nI 31))) = (nI 1) then
ck h l1 [11] (fun _ =>
cl (F_X11_sort G h nx l1) (fun r14 h15 n16 =>
ck h15 l2 [12] (fun _ =>
cl (F_X12_sort G h15 n16 l2) (fun r17 h18 n19 =>
if r14 = r17 then
(F_L_law_1114 G (F_L_law_18 G n) h18 n19 l1 l2 l3)
else
zk (nI 0) (some ((nI 0), h18, n19))))))
else
if ((v1 &&& (nI 31))) = (nI 2) then
slI G ((l3 + (nI 1))) (fun v20 =>
slI G ((l3 + (nI 2))) (fun v21 =>
slI G ((l3 + (nI 3))) (fun v22 =>
slI G ((l3 + (nI 4))) (fun v23 =>
ck h l1 [11] (fun _ =>
cl (F_X11_told G h nx l1 v20 v21 v22 v23) (fun r24 h25 n26 =>
slI G ((l3 + (nI 1))) (fun v27 =>
slI G ((l3 + (nI 2))) (fun v28 =>
slI G ((l3 + (nI 3))) (fun v29 =>
slI G ((l3 + (nI 4))) (fun v30 =>
ck h25 l2 [12] (fun _ =>
cl (F_X12_told G h25 n26 l2 v27 v28 v29 v30) (fun r31 h32 n33 =>
if r24 = r31 then
(F_L_law_1114 G (F_L_law_18 G n) h32 n33 l1 l2 l3)
else
zk (nI 0) (some ((nI 0), h32, n33))))))))))))))
else
if ((v1 &&& (nI 31))) = (nI 3) then
slI G ((l3 + (nI 1))) (fun v34 =>
slI G ((l3 + (nI 2))) (fun v35 =>
ck h l1 [11] (fun _ =>
cl (F_X11_thing G h nx l1 v34 v35) (fun r36 h37 n38 =>
slI G ((l3 + (nI 1))) (fun v39 =>
slI G ((l3 + (nI 2))) (fun v40 =>
ck h37 l2 [12] (fun _ =>
cl (F_X12_thing G h37 n38 l2 v39 v40) (fun r41 h42 n43 =>
if r36 = r41 then
(F_L_law_1114 G (F_L_law_18 G n) h42 n43 l1 l2 l3)
else
zk (nI 0) (some ((nI 0), h42, n43))))))))))
else
if ((v1 &&& (nI 31))) = (nI 4) then
slI G ((l3 + (nI 1))) (fun v44 =>
slI G ((l3 + (nI 2))) (fun v45 =>
ck h l1 [11] (fun _ =>
cl (F_X11_of G h nx l1 v44 v45) (fun r46 h47 n48 =>
slI G ((l3 + (nI 1))) (fun v49 =>
slI G ((l3 + (nI 2))) (fun v50 =>
ck h47 l2 [12] (fun _ =>
cl (F_X12_of G h47 n48 l2 v49 v50) (fun r51 h52 n53 =>
if r46 = r51 then
(F_L_law_1114 G (F_L_law_18 G n) h52 n53 l1 l2 l3)
else
zk (nI 0) (some ((nI 0), h52, n53))))))))))
else
if ((v1 &&& (nI 31))) = (nI 5) then
slI G ((l3 + (nI 1))) (fun v54 =>
ck h l1 [11] (fun _ =>
cl (F_X11_days G h nx l1 v54) (fun r55 h56 n57 =>
slI G ((l3 + (nI 1))) (fun v58 =>
ck h56 l2 [12] (fun _ =>
cl (F_X12_days G h56 n57 l2 v58) (fun r59 h60 n61 =>
if r55 = r59 then
(F_L_law_1114 G (F_L_law_18 G n) h60 n61 l1 l2 l3)
else
zk (nI 0) (some ((nI 0), h60, n61))))))))
else
if ((v1 &&& (nI 31))) = (nI 6) then
slI G ((l3 + (nI 1))) (fun v62 =>
slI G ((l3 + (nI 2))) (fun v63 =>
if v63 = 0 then
(F_L_law_401 G (F_L_law_18 G n) h nx l1 v62 (nI 0) l1 l2 l3)
else
(F_L_law_401 G (F_L_law_18 G n) h nx l1 v62 (nI 1) l1 l2 l3)))
else
if ((v1 &&& (nI 31))) = (nI 7) then
slI G ((l3 + (nI 1))) (fun v64 =>
slI G ((l3 + (nI 2))) (fun v65 =>
slI G ((l3 + (nI 3))) (fun v66 =>
slI G ((l3 + (nI 4))) (fun v67 =>
ck h l1 [11] (fun _ =>
cl (F_X11_best G h nx l1 v64 v65 v66 v67) (fun r68 h69 n70 =>
slI G ((l3 + (nI 1))) (fun v71 =>
slI G ((l3 + (nI 2))) (fun v72 =>
slI G ((l3 + (nI 3))) (fun v73 =>
slI G ((l3 + (nI 4))) (fun v74 =>
ck h69 l2 [12] (fun _ =>
cl (F_X12_best G h69 n70 l2 v71 v72 v73 v74) (fun r75 h76 n77 =>
if ((lg_cmp r68 r75)) = 0 then
(F_L_law_1114 G (F_L_law_18 G n) h76 n77 l1 l2 l3)
else
zk (nI 0) (some ((nI 0), h76, n77))))))))))))))
else
if ((v1 &&& (nI 31))) = (nI 8) then
slI G ((l3 + (nI 1))) (fun v78 =>
slI G ((l3 + (nI 2))) (fun v79 =>
ck h l1 [11] (fun _ =>
cl (F_X11_number G h nx l1 v78 v79) (fun r80 h81 n82 =>
slI G ((l3 + (nI 1))) (fun v83 =>
slI G ((l3 + (nI 2))) (fun v84 =>
ck h81 l2 [12] (fun _ =>
cl (F_X12_number G h81 n82 l2 v83 v84) (fun r85 h86 n87 =>
if r80 = r85 then
(F_L_law_1114 G (F_L_law_18 G n) h86 n87 l1 l2 l3)
else
zk (nI 0) (some ((nI 0), h86, n87))))))))))
else
if ((v1 &&& (nI 31))) = (nI 9) then
slI G ((l3 + (nI 1))) (fun v88 =>
slI G ((l3 + (nI 2))) (fun v89 =>
ck h l1 [11] (fun _ =>
cl (F_X11_such G h nx l1 v88 v89) (fun r90 h91 n92 =>
slI G ((l3 + (nI 1))) (fun v93 =>
slI G ((l3 + (nI 2))) (fun v94 =>
ck h91 l2 [12] (fun _ =>
cl (F_X12_such G h91 n92 l2 v93 v94) (fun r95 h96 n97 =>
if r90 = r95 then
(F_L_law_1114 G (F_L_law_18 G n) h96 n97 l1 l2 l3)
else
zk (nI 0) (some ((nI 0), h96, n97))))))))))
else
if ((v1 &&& (nI 31))) = (nI 10) then
slI G ((l3 + (nI 1))) (fun v98 =>
ck h l1 [11] (fun _ =>
cl (F_X11_looks G h nx l1 v98) (fun r99 h100 n101 =>
slI G ((l3 + (nI 1))) (fun v102 =>
ck h100 l2 [12] (fun _ =>
cl (F_X12_looks G h100 n101 l2 v102) (fun r103 h104 n105 =>
if r99 = r103 then
(F_L_law_1114 G (F_L_law_18 G n) h104 n105 l1 l2 l3)
else
zk (nI 0) (some ((nI 0), h104, n105))))))))
else
if ((v1 &&& (nI 31))) = (nI 11) then
slI G ((l3 + (nI 1))) (fun v106 =>
slI G ((l3 + (nI 2))) (fun v107 =>
ck h l1 [11] (fun _ =>
cl (F_X11_plan G h nx l1 v106 v107) (fun r108 h109 n110 =>
slI G ((l3 + (nI 1))) (fun v111 =>
slI G ((l3 + (nI 2))) (fun v112 =>
ck h109 l2 [12] (fun _ =>
cl (F_X12_plan G h109 n110 l2 v111 v112) (fun r113 h114 n115 =>
if r108 = r113 then
(F_L_law_1114 G (F_L_law_18 G n) h114 n115 l1 l2 l3)
else
zk (nI 0) (some ((nI 0), h114, n115))))))))))
else
if ((v1 &&& (nI 31))) = (nI 12) then
slI G ((l3 + (nI 1))) (fun v116 =>
slI G ((l3 + (nI 2))) (fun v117 =>
ck h l1 [11] (fun _ =>
cl (F_X11_row G h nx l1 v116 v117) (fun r118 h119 n120 =>
slI G ((l3 + (nI 1))) (fun v121 =>
slI G ((l3 + (nI 2))) (fun v122 =>
ck h119 l2 [12] (fun _ =>
cl (F_X12_row G h119 n120 l2 v121 v122) (fun r123 h124 n125 =>
if r118 = r123 then
(F_L_law_1114 G (F_L_law_18 G n) h124 n125 l1 l2 l3)
else
zk (nI 0) (some ((nI 0), h124, n125))))))))))
else
if ((v1 &&& (nI 31))) = (nI 13) then
slI G ((l3 + (nI 1))) (fun v126 =>
ck h l1 [11] (fun _ =>
cl (F_X11_whom G h nx l1 v126) (fun r127 h128 n129 =>
slI G ((l3 + (nI 1))) (fun v130 =>
ck h128 l2 [12] (fun _ =>
cl (F_X12_whom G h128 n129 l2 v130) (fun r131 h132 n133 =>
if r127 = r131 then
(F_L_law_1114 G (F_L_law_18 G n) h132 n133 l1 l2 l3)
else
zk (nI 0) (some ((nI 0), h132, n133))))))))
else
if ((v1 &&& (nI 31))) = (nI 14) then
slI G ((l3 + (nI 1))) (fun v134 =>
slI G ((l3 + (nI 2))) (fun v135 =>
ck h l1 [11] (fun _ =>
cl (F_X11_mean G h nx l1 v134 v135) (fun r136 h137 n138 =>
slI G ((l3 + (nI 1))) (fun v139 =>
slI G ((l3 + (nI 2))) (fun v140 =>
ck h137 l2 [12] (fun _ =>
cl (F_X12_mean G h137 n138 l2 v139 v140) (fun r141 h142 n143 =>
if ((lg_cmp r136 r141)) = 0 then
(F_L_law_1114 G (F_L_law_18 G n) h142 n143 l1 l2 l3)
else
zk (nI 0) (some ((nI 0), h142, n143))))))))))
else
if ((v1 &&& (nI 31))) = (nI 15) then
slI G ((l3 + (nI 1))) (fun v144 =>
slI G ((l3 + (nI 2))) (fun v145 =>
ck h l1 [11] (fun _ =>
cl (F_X11_all G h nx l1 v144 v145) (fun r146 h147 n148 =>
slI G ((l3 + (nI 1))) (fun v149 =>
slI G ((l3 + (nI 2))) (fun v150 =>
ck h147 l2 [12] (fun _ =>
cl (F_X12_all G h147 n148 l2 v149 v150) (fun r151 h152 n153 =>
if ((lg_cmp r146 r151)) = 0 then
(F_L_law_1114 G (F_L_law_18 G n) h152 n153 l1 l2 l3)
else
zk (nI 0) (some ((nI 0), h152, n153))))))))))
else
if ((v1 &&& (nI 31))) = (nI 16) then
slI G ((l3 + (nI 1))) (fun v154 =>
slI G ((l3 + (nI 2))) (fun v155 =>
ck h l1 [11] (fun _ =>
cl (F_X11_loses G h nx l1 v154 v155) (fun r156 h157 n158 =>
slI G ((l3 + (nI 1))) (fun v159 =>
slI G ((l3 + (nI 2))) (fun v160 =>
ck h157 l2 [12] (fun _ =>
cl (F_X12_loses G h157 n158 l2 v159 v160) (fun r161 h162 n163 =>
if ((lg_cmp r156 r161)) = 0 then
(F_L_law_1114 G (F_L_law_18 G n) h162 n163 l1 l2 l3)
else
zk (nI 0) (some ((nI 0), h162, n163))))))))))
else
if ((v1 &&& (nI 31))) = (nI 17) then
slI G ((l3 + (nI 1))) (fun v164 =>
ck h l1 [11] (fun _ =>
cl (F_X11_bound G h nx l1 v164) (fun r165 h166 n167 =>
slI G ((l3 + (nI 1))) (fun v168 =>
ck h166 l2 [12] (fun _ =>
cl (F_X12_bound G h166 n167 l2 v168) (fun r169 h170 n171 =>
if ((lg_cmp r165 r169)) = 0 then
(F_L_law_1114 G (F_L_law_18 G n) h170 n171 l1 l2 l3)
else
zk (nI 0) (some ((nI 0), h170, n171))))))))
else
if ((v1 &&& (nI 31))) = (nI 18) then
slI G ((l3 + (nI 1))) (fun v172 =>
slI G ((l3 + (nI 2))) (fun v173 =>
ck h l1 [11] (fun _ =>
cl (F_X11_judged G h nx l1 v172 v173) (fun r174 h175 n176 =>
slI G ((l3 + (nI 1))) (fun v177 =>
slI G ((l3 + (nI 2))) (fun v178 =>
ck h175 l2 [12] (fun _ =>
cl (F_X12_judged G h175 n176 l2 v177 v178) (fun r179 h180 n181 =>
if r174 = r179 then
(F_L_law_1114 G (F_L_law_18 G n) h180 n181 l1 l2 l3)
else
zk (nI 0) (some ((nI 0), h180, n181))))))))))
else
if ((v1 &&& (nI 31))) = (nI 19) then
slI G ((l3 + (nI 1))) (fun v182 =>
slI G ((l3 + (nI 2))) (fun v183 =>
slI G ((l3 + (nI 3))) (fun v184 =>
ck h l1 [11] (fun _ =>
cl (F_X11_run G h nx l1 v182 v183 v184) (fun r185 h186 n187 =>
slI G ((l3 + (nI 1))) (fun v188 =>
slI G ((l3 + (nI 2))) (fun v189 =>
slI G ((l3 + (nI 3))) (fun v190 =>
ck h186 l2 [12] (fun _ =>
cl (F_X12_run G h186 n187 l2 v188 v189 v190) (fun r191 h192 n193 =>
if ((lg_cmp r185 r191)) = 0 then
(F_L_law_1114 G (F_L_law_18 G n) h192 n193 l1 l2 l3)
else
zk (nI 0) (some ((nI 0), h192, n193))))))))))))
else
if ((v1 &&& (nI 31))) = (nI 20) then
slI G ((l3 + (nI 1))) (fun v194 =>
slI G ((l3 + (nI 2))) (fun v195 =>
ck h l1 [11] (fun _ =>
cl (F_X11_round G h nx l1 v194 v195) (fun r196 h197 n198 =>
slI G ((l3 + (nI 1))) (fun v199 =>
slI G ((l3 + (nI 2))) (fun v200 =>
ck h197 l2 [12] (fun _ =>
cl (F_X12_round G h197 n198 l2 v199 v200) (fun r201 h202 n203 =>
if ((lg_cmp r196 r201)) = 0 then
(F_L_law_1114 G (F_L_law_18 G n) h202 n203 l1 l2 l3)
else
zk (nI 0) (some ((nI 0), h202, n203))))))))))
else
if ((v1 &&& (nI 31))) = (nI 21) then
slI G ((l3 + (nI 1))) (fun v204 =>
slI G ((l3 + (nI 2))) (fun v205 =>
ck h l1 [11] (fun _ =>
cl (F_X11_tour G h nx l1 v204 v205) (fun r206 h207 n208 =>
slI G ((l3 + (nI 1))) (fun v209 =>
slI G ((l3 + (nI 2))) (fun v210 =>
ck h207 l2 [12] (fun _ =>
cl (F_X12_tour G h207 n208 l2 v209 v210) (fun r211 h212 n213 =>
if r206 = r211 then
(F_L_law_1114 G (F_L_law_18 G n) h212 n213 l1 l2 l3)
else
zk (nI 0) (some ((nI 0), h212, n213))))))))))
else
if ((v1 &&& (nI 31))) = (nI 22) then
slI G ((l3 + (nI 1))) (fun v214 =>
slI G ((l3 + (nI 2))) (fun v215 =>
ck h l1 [11] (fun _ =>
cl (F_X11_edge G h nx l1 v214 v215) (fun r216 h217 n218 =>
slI G ((l3 + (nI 1))) (fun v219 =>
slI G ((l3 + (nI 2))) (fun v220 =>
ck h217 l2 [12] (fun _ =>
cl (F_X12_edge G h217 n218 l2 v219 v220) (fun r221 h222 n223 =>
if r216 = r221 then
(F_L_law_1114 G (F_L_law_18 G n) h222 n223 l1 l2 l3)
else
zk (nI 0) (some ((nI 0), h222, n223))))))))))
else
if ((v1 &&& (nI 31))) = (nI 23) then
slI G ((l3 + (nI 1))) (fun v224 =>
slI G ((l3 + (nI 2))) (fun v225 =>
slI G ((l3 + (nI 3))) (fun v226 =>
ck h l1 [11] (fun _ =>
cl (F_X11_act G h nx l1 v224 v225 v226) (fun r227 h228 n229 =>
slI G ((l3 + (nI 1))) (fun v230 =>
slI G ((l3 + (nI 2))) (fun v231 =>
slI G ((l3 + (nI 3))) (fun v232 =>
ck h228 l2 [12] (fun _ =>
cl (F_X12_act G h228 n229 l2 v230 v231 v232) (fun r233 h234 n235 =>
if r227 = r233 then
(F_L_law_1114 G (F_L_law_18 G n) h234 n235 l1 l2 l3)
else
zk (nI 0) (some ((nI 0), h234, n235))))))))))))
else
if ((v1 &&& (nI 31))) = (nI 24) then
slI G ((l3 + (nI 1))) (fun v236 =>
ck h l1 [11] (fun _ =>
cl (F_X11_trace G h nx l1 v236) (fun r237 h238 n239 =>
slI G ((l3 + (nI 1))) (fun v240 =>
ck h238 l2 [12] (fun _ =>
cl (F_X12_trace G h238 n239 l2 v240) (fun r241 h242 n243 =>
if r237 = r241 then
(F_L_law_1114 G (F_L_law_18 G n) h242 n243 l1 l2 l3)
else
zk (nI 0) (some ((nI 0), h242, n243))))))))
else
if ((v1 &&& (nI 31))) = (nI 25) then
slI G ((l3 + (nI 1))) (fun v244 =>
slI G ((l3 + (nI 2))) (fun v245 =>
ck h l1 [11] (fun _ =>
cl (F_X11_as G h nx l1 v244 v245) (fun r246 h247 n248 =>
slI G ((l3 + (nI 1))) (fun v249 =>
slI G ((l3 + (nI 2))) (fun v250 =>
ck h247 l2 [12] (fun _ =>
cl (F_X12_as G h247 n248 l2 v249 v250) (fun r251 h252 n253 =>
if r246 = r251 then
(F_L_law_1114 G (F_L_law_18 G n) h252 n253 l1 l2 l3)
else
zk (nI 0) (some ((nI 0), h252, n253))))))))))
else
if ((v1 &&& (nI 31))) = (nI 26) then
ck h l1 [11] (fun _ =>
cl (F_X11_image G h nx l1) (fun r254 h255 n256 =>
ck h255 l2 [12] (fun _ =>
cl (F_X12_image G h255 n256 l2) (fun r257 h258 n259 =>
if r254 = r257 then
(F_L_law_1114 G (F_L_law_18 G n) h258 n259 l1 l2 l3)
else
zk (nI 0) (some ((nI 0), h258, n259))))))
else
if ((v1 &&& (nI 31))) = (nI 27) then
ck h l1 [11] (fun _ =>
cl (F_X11_undo G h nx l1) (fun r260 h261 n262 =>
ck h261 l2 [12] (fun _ =>
cl (F_X12_undo G h261 n262 l2) (fun r263 h264 n265 =>
if r260 = r263 then
(F_L_law_1114 G (F_L_law_18 G n) h264 n265 l1 l2 l3)
else
zk (nI 0) (some ((nI 0), h264, n265))))))
else
if ((v1 &&& (nI 31))) = (nI 28) then
slI G ((l3 + (nI 1))) (fun v266 =>
ck h l1 [11] (fun _ =>
cl (F_X11_count G h nx l1 v266) (fun r267 h268 n269 =>
slI G ((l3 + (nI 1))) (fun v270 =>
ck h268 l2 [12] (fun _ =>
cl (F_X12_count G h268 n269 l2 v270) (fun r271 h272 n273 =>
if r267 = r271 then
(F_L_law_1114 G (F_L_law_18 G n) h272 n273 l1 l2 l3)
else
zk (nI 0) (some ((nI 0), h272, n273))))))))
else
(F_L_law_1114 G (F_L_law_18 G n) h nx l1 l2 l3))) := rfl
set_option maxRecDepth 100000 in
set_option maxHeartbeats 4000000 in
theorem k_L_law_18 {G : Gx} {d : Nat} {v' : Int32} {h' : Hp} {n' : Nat} : ∀ (n : Nat) {kc ks : Nat} (hk : kc + 10 * n ≤ 600000) (hs : ks + 420 * n ≤ 7302250) {h : Hp} {nx : Nat} {l1 : Nat} {l2 : Nat} {l3 : Int32}, F_L_law_18 G n h nx l1 l2 l3 = some (v', h', n') → Ok G mL_law (d + 141) (Same (some (.int v')) h' n') 18 [some (.ref (g_b G)), some (.ref l1), some (.ref l2), some (.int l3)] [] h nx kc ks := by
  intro n
  induction n with
  | zero =>
    intro kc ks hk hs h nx l1 l2 l3 e
    rw [F_L_law_18_0] at e
    cases e
  | succ n K18 =>
    intro kc ks hk hs h nx l1 l2 l3 e
    rw [F_L_law_18_s] at e
    refine Ok.iload_n dL_law_18 rfl ?_
    refine Ok.aload_n dL_law_19 rfl ?_
    refine Ok.slen dL_law_20 ?_
    refine Ok.iconstV (v := (nI 5)) dL_law_21 (by decide +kernel) ?_
    refine Ok.isub dL_law_22 ?_
    refine X.icmp_gt (tgt := 1120) dL_law_23 (by decide) e (fun e1 => ?_) (fun e1 => ?_)
    · clear e
      refine Ok.iconstV (v := (nI 1)) dL_law_1120 (by decide +kernel) ?_
      exact X.zret dL_law_1121 rfl (by show kc ≤ 600000; omega) (by show ks ≤ 7302250; omega) e1
    · clear e
      refine Ok.aload_n dL_law_26 rfl ?_
      refine Ok.iload_n dL_law_27 rfl ?_
      refine X.sld dL_law_28 e1 (fun v1 e2 => ?_)
      clear e1
      refine Ok.bipushV (v := (nI 31)) dL_law_29 (by decide +kernel) ?_
      refine Ok.iand dL_law_31 ?_
      refine X.sw e2 (fun c0 e3 => ?_) (fun c0 e3 => ?_)
      · clear e2
        rw [c0]
        refine Ok.tableIn (off := 132) (tgt := 164) dL_law_32 (by decide) (by decide) (by decide +kernel) (by decide) ?_
        refine Ok.aload_n dL_law_164 rfl ?_
        refine Ok.aload_n dL_law_165 rfl ?_
        refine Ok.iload_n dL_law_166 rfl ?_
        refine Ok.iconstV (v := (nI 1)) dL_law_167 (by decide +kernel) ?_
        refine Ok.iadd dL_law_168 ?_
        refine X.sld dL_law_169 e3 (fun v2 e4 => ?_)
        clear e3
        refine Ok.i2l dL_law_170 ?_
        refine Ok.bipushV (v := (nI 32)) dL_law_171 (by decide +kernel) ?_
        refine Ok.lshl dL_law_173 ?_
        refine Ok.aload_n dL_law_174 rfl ?_
        refine Ok.iload_n dL_law_175 rfl ?_
        refine Ok.iconstV (v := (nI 2)) dL_law_176 (by decide +kernel) ?_
        refine Ok.iadd dL_law_177 ?_
        refine X.sld dL_law_178 e4 (fun v3 e5 => ?_)
        clear e4
        refine Ok.i2l dL_law_179 ?_
        refine Ok.ldc2_w (v := 4294967295) dL_law_180 wd1534 ?_
        refine Ok.land dL_law_183 ?_
        refine Ok.lor dL_law_184 ?_
        refine Ok.aload_n dL_law_185 rfl ?_
        refine Ok.iload_n dL_law_186 rfl ?_
        refine Ok.iconstV (v := (nI 3)) dL_law_187 (by decide +kernel) ?_
        refine Ok.iadd dL_law_188 ?_
        refine X.sld dL_law_189 e5 (fun v4 e6 => ?_)
        clear e5
        refine X.rck e6 (fun c fs hb hc e7 => ?_)
        clear e6
        obtain rfl := List.mem_singleton.mp hc
        refine X.callV (My := mX11_feed) (n := 2) (As := [.long (((((v2.toInt64) <<< ((nI 32).toInt64 &&& 63))) ||| (((v3.toInt64) &&& (4294967295 : Int64))))), .int v4]) (T := (fun v => (some (.int v)))) (stk' := (fun v => [.int v])) (rest := []) (kc' := kc) (ks' := ks) dL_law_190 e7 (fun v h n e => k_X11_feed (d := d + 140) e) hb rfl wd321 wd76 wd319 wd320 wd318 (by decide +kernel) rfl (by decide) rfl rfl (Nat.le_of_ble_eq_true rfl) (by show kc ≤ 600000; omega) (by show ks ≤ 7302250; omega) rfl rfl (fun _ => rfl) (fun r5 h6 n7 e8 => ?_)
        clear e7
        refine Ok.aload_n dL_law_193 rfl ?_
        refine Ok.aload_n dL_law_194 rfl ?_
        refine Ok.iload_n dL_law_195 rfl ?_
        refine Ok.iconstV (v := (nI 1)) dL_law_196 (by decide +kernel) ?_
        refine Ok.iadd dL_law_197 ?_
        refine X.sld dL_law_198 e8 (fun v8 e9 => ?_)
        clear e8
        refine Ok.i2l dL_law_199 ?_
        refine Ok.bipushV (v := (nI 32)) dL_law_200 (by decide +kernel) ?_
        refine Ok.lshl dL_law_202 ?_
        refine Ok.aload_n dL_law_203 rfl ?_
        refine Ok.iload_n dL_law_204 rfl ?_
        refine Ok.iconstV (v := (nI 2)) dL_law_205 (by decide +kernel) ?_
        refine Ok.iadd dL_law_206 ?_
        refine X.sld dL_law_207 e9 (fun v9 e10 => ?_)
        clear e9
        refine Ok.i2l dL_law_208 ?_
        refine Ok.ldc2_w (v := 4294967295) dL_law_209 wd1534 ?_
        refine Ok.land dL_law_212 ?_
        refine Ok.lor dL_law_213 ?_
        refine Ok.aload_n dL_law_214 rfl ?_
        refine Ok.iload_n dL_law_215 rfl ?_
        refine Ok.iconstV (v := (nI 3)) dL_law_216 (by decide +kernel) ?_
        refine Ok.iadd dL_law_217 ?_
        refine X.sld dL_law_218 e10 (fun v10 e11 => ?_)
        clear e10
        refine X.rck e11 (fun c fs hb hc e12 => ?_)
        clear e11
        obtain rfl := List.mem_singleton.mp hc
        refine X.callV (My := mX12_feed) (n := 2) (As := [.long (((((v8.toInt64) <<< ((nI 32).toInt64 &&& 63))) ||| (((v9.toInt64) &&& (4294967295 : Int64))))), .int v10]) (T := (fun v => (some (.int v)))) (stk' := (fun v => [.int v, .int r5])) (rest := [.int r5]) (kc' := kc) (ks' := ks) dL_law_219 e12 (fun v h n e => k_X12_feed (d := d + 139) e) hb rfl wd1193 wd80 wd1191 wd1192 wd1190 (by decide +kernel) rfl (by decide) rfl rfl (Nat.le_of_ble_eq_true rfl) (by show kc ≤ 600000; omega) (by show ks ≤ 7302250; omega) rfl rfl (fun _ => rfl) (fun r11 h12 n13 e13 => ?_)
        clear e12
        refine X.icmp_eq (tgt := 1114) dL_law_222 (by decide) e13 (fun e14 => ?_) (fun e14 => ?_)
        · clear e13
          exact Ok.weakL (k_L_law_1114 (d := d) K18 (by omega) (by omega) e14) ⟨rfl, ⟨rfl, ⟨rfl, ⟨rfl, trivial⟩⟩⟩⟩
        · clear e13
          refine Ok.iconstV (v := (nI 0)) dL_law_225 (by decide +kernel) ?_
          exact X.zret dL_law_226 rfl (by show kc ≤ 600000; omega) (by show ks ≤ 7302250; omega) e14
      refine X.sw e3 (fun c1 e4 => ?_) (fun c1 e4 => ?_)
      · clear e3
        rw [c1]
        refine Ok.tableIn (off := 195) (tgt := 227) dL_law_32 (by decide) (by decide) (by decide +kernel) (by decide) ?_
        refine Ok.aload_n dL_law_227 rfl ?_
        refine X.rck e4 (fun c fs hb hc e5 => ?_)
        clear e4
        obtain rfl := List.mem_singleton.mp hc
        refine X.callV (My := mX11_sort) (n := 0) (As := []) (T := (fun v => (some (.int v)))) (stk' := (fun v => [.int v])) (rest := []) (kc' := (kc + 8)) (ks' := (ks + 406)) dL_law_228 e5 (fun v h n e => k_X11_sort (d := d + 71) e) hb rfl wd325 wd76 wd323 wd324 wd322 (by decide +kernel) rfl (by decide) rfl rfl (Nat.le_of_ble_eq_true rfl) (by show (kc + 8) ≤ 600000; omega) (by show (ks + 406) ≤ 7302250; omega) rfl rfl (fun _ => rfl) (fun r14 h15 n16 e6 => ?_)
        clear e5
        refine Ok.aload_n dL_law_231 rfl ?_
        refine X.rck e6 (fun c fs hb hc e7 => ?_)
        clear e6
        obtain rfl := List.mem_singleton.mp hc
        refine X.callV (My := mX12_sort) (n := 0) (As := []) (T := (fun v => (some (.int v)))) (stk' := (fun v => [.int v, .int r14])) (rest := [.int r14]) (kc' := (kc + 8)) (ks' := (ks + 406)) dL_law_232 e7 (fun v h n e => k_X12_sort (d := d + 71) e) hb rfl wd1201 wd80 wd1199 wd1200 wd1198 (by decide +kernel) rfl (by decide) rfl rfl (Nat.le_of_ble_eq_true rfl) (by show (kc + 8) ≤ 600000; omega) (by show (ks + 406) ≤ 7302250; omega) rfl rfl (fun _ => rfl) (fun r17 h18 n19 e8 => ?_)
        clear e7
        refine X.icmp_eq (tgt := 1114) dL_law_235 (by decide) e8 (fun e9 => ?_) (fun e9 => ?_)
        · clear e8
          exact Ok.weakL (k_L_law_1114 (d := d) K18 (by omega) (by omega) e9) ⟨rfl, ⟨rfl, ⟨rfl, ⟨rfl, trivial⟩⟩⟩⟩
        · clear e8
          refine Ok.iconstV (v := (nI 0)) dL_law_238 (by decide +kernel) ?_
          exact X.zret dL_law_239 rfl (by show (kc + 8) ≤ 600000; omega) (by show (ks + 406) ≤ 7302250; omega) e9
      refine X.sw e4 (fun c2 e5 => ?_) (fun c2 e5 => ?_)
      · clear e4
        rw [c2]
        refine Ok.tableIn (off := 208) (tgt := 240) dL_law_32 (by decide) (by decide) (by decide +kernel) (by decide) ?_
        refine Ok.aload_n dL_law_240 rfl ?_
        refine Ok.aload_n dL_law_241 rfl ?_
        refine Ok.iload_n dL_law_242 rfl ?_
        refine Ok.iconstV (v := (nI 1)) dL_law_243 (by decide +kernel) ?_
        refine Ok.iadd dL_law_244 ?_
        refine X.sld dL_law_245 e5 (fun v20 e6 => ?_)
        clear e5
        refine Ok.aload_n dL_law_246 rfl ?_
        refine Ok.iload_n dL_law_247 rfl ?_
        refine Ok.iconstV (v := (nI 2)) dL_law_248 (by decide +kernel) ?_
        refine Ok.iadd dL_law_249 ?_
        refine X.sld dL_law_250 e6 (fun v21 e7 => ?_)
        clear e6
        refine Ok.aload_n dL_law_251 rfl ?_
        refine Ok.iload_n dL_law_252 rfl ?_
        refine Ok.iconstV (v := (nI 3)) dL_law_253 (by decide +kernel) ?_
        refine Ok.iadd dL_law_254 ?_
        refine X.sld dL_law_255 e7 (fun v22 e8 => ?_)
        clear e7
        refine Ok.aload_n dL_law_256 rfl ?_
        refine Ok.iload_n dL_law_257 rfl ?_
        refine Ok.iconstV (v := (nI 4)) dL_law_258 (by decide +kernel) ?_
        refine Ok.iadd dL_law_259 ?_
        refine X.sld dL_law_260 e8 (fun v23 e9 => ?_)
        clear e8
        refine X.rck e9 (fun c fs hb hc e10 => ?_)
        clear e9
        obtain rfl := List.mem_singleton.mp hc
        refine X.callV (My := mX11_told) (n := 4) (As := [.int v20, .int v21, .int v22, .int v23]) (T := (fun v => (some (.int v)))) (stk' := (fun v => [.int v])) (rest := []) (kc' := kc) (ks' := ks) dL_law_261 e10 (fun v h n e => k_X11_told (d := d + 138) e) hb rfl wd492 wd76 wd490 wd491 wd489 (by decide +kernel) rfl (by decide) rfl rfl (Nat.le_of_ble_eq_true rfl) (by show kc ≤ 600000; omega) (by show ks ≤ 7302250; omega) rfl rfl (fun _ => rfl) (fun r24 h25 n26 e11 => ?_)
        clear e10
        refine Ok.aload_n dL_law_264 rfl ?_
        refine Ok.aload_n dL_law_265 rfl ?_
        refine Ok.iload_n dL_law_266 rfl ?_
        refine Ok.iconstV (v := (nI 1)) dL_law_267 (by decide +kernel) ?_
        refine Ok.iadd dL_law_268 ?_
        refine X.sld dL_law_269 e11 (fun v27 e12 => ?_)
        clear e11
        refine Ok.aload_n dL_law_270 rfl ?_
        refine Ok.iload_n dL_law_271 rfl ?_
        refine Ok.iconstV (v := (nI 2)) dL_law_272 (by decide +kernel) ?_
        refine Ok.iadd dL_law_273 ?_
        refine X.sld dL_law_274 e12 (fun v28 e13 => ?_)
        clear e12
        refine Ok.aload_n dL_law_275 rfl ?_
        refine Ok.iload_n dL_law_276 rfl ?_
        refine Ok.iconstV (v := (nI 3)) dL_law_277 (by decide +kernel) ?_
        refine Ok.iadd dL_law_278 ?_
        refine X.sld dL_law_279 e13 (fun v29 e14 => ?_)
        clear e13
        refine Ok.aload_n dL_law_280 rfl ?_
        refine Ok.iload_n dL_law_281 rfl ?_
        refine Ok.iconstV (v := (nI 4)) dL_law_282 (by decide +kernel) ?_
        refine Ok.iadd dL_law_283 ?_
        refine X.sld dL_law_284 e14 (fun v30 e15 => ?_)
        clear e14
        refine X.rck e15 (fun c fs hb hc e16 => ?_)
        clear e15
        obtain rfl := List.mem_singleton.mp hc
        refine X.callV (My := mX12_told) (n := 4) (As := [.int v27, .int v28, .int v29, .int v30]) (T := (fun v => (some (.int v)))) (stk' := (fun v => [.int v, .int r24])) (rest := [.int r24]) (kc' := kc) (ks' := ks) dL_law_285 e16 (fun v h n e => k_X12_told (d := d + 138) e) hb rfl wd1257 wd80 wd1255 wd1256 wd1254 (by decide +kernel) rfl (by decide) rfl rfl (Nat.le_of_ble_eq_true rfl) (by show kc ≤ 600000; omega) (by show ks ≤ 7302250; omega) rfl rfl (fun _ => rfl) (fun r31 h32 n33 e17 => ?_)
        clear e16
        refine X.icmp_eq (tgt := 1114) dL_law_288 (by decide) e17 (fun e18 => ?_) (fun e18 => ?_)
        · clear e17
          exact Ok.weakL (k_L_law_1114 (d := d) K18 (by omega) (by omega) e18) ⟨rfl, ⟨rfl, ⟨rfl, ⟨rfl, trivial⟩⟩⟩⟩
        · clear e17
          refine Ok.iconstV (v := (nI 0)) dL_law_291 (by decide +kernel) ?_
          exact X.zret dL_law_292 rfl (by show kc ≤ 600000; omega) (by show ks ≤ 7302250; omega) e18
      refine X.sw e5 (fun c3 e6 => ?_) (fun c3 e6 => ?_)
      · clear e5
        rw [c3]
        refine Ok.tableIn (off := 261) (tgt := 293) dL_law_32 (by decide) (by decide) (by decide +kernel) (by decide) ?_
        refine Ok.aload_n dL_law_293 rfl ?_
        refine Ok.aload_n dL_law_294 rfl ?_
        refine Ok.iload_n dL_law_295 rfl ?_
        refine Ok.iconstV (v := (nI 1)) dL_law_296 (by decide +kernel) ?_
        refine Ok.iadd dL_law_297 ?_
        refine X.sld dL_law_298 e6 (fun v34 e7 => ?_)
        clear e6
        refine Ok.aload_n dL_law_299 rfl ?_
        refine Ok.iload_n dL_law_300 rfl ?_
        refine Ok.iconstV (v := (nI 2)) dL_law_301 (by decide +kernel) ?_
        refine Ok.iadd dL_law_302 ?_
        refine X.sld dL_law_303 e7 (fun v35 e8 => ?_)
        clear e7
        refine X.rck e8 (fun c fs hb hc e9 => ?_)
        clear e8
        obtain rfl := List.mem_singleton.mp hc
        refine X.callV (My := mX11_thing) (n := 2) (As := [.int v34, .int v35]) (T := (fun v => (some (.int v)))) (stk' := (fun v => [.int v])) (rest := []) (kc' := kc) (ks' := ks) dL_law_304 e9 (fun v h n e => k_X11_thing (d := d + 139) e) hb rfl wd508 wd76 wd506 wd507 wd505 (by decide +kernel) rfl (by decide) rfl rfl (Nat.le_of_ble_eq_true rfl) (by show kc ≤ 600000; omega) (by show ks ≤ 7302250; omega) rfl rfl (fun _ => rfl) (fun r36 h37 n38 e10 => ?_)
        clear e9
        refine Ok.aload_n dL_law_307 rfl ?_
        refine Ok.aload_n dL_law_308 rfl ?_
        refine Ok.iload_n dL_law_309 rfl ?_
        refine Ok.iconstV (v := (nI 1)) dL_law_310 (by decide +kernel) ?_
        refine Ok.iadd dL_law_311 ?_
        refine X.sld dL_law_312 e10 (fun v39 e11 => ?_)
        clear e10
        refine Ok.aload_n dL_law_313 rfl ?_
        refine Ok.iload_n dL_law_314 rfl ?_
        refine Ok.iconstV (v := (nI 2)) dL_law_315 (by decide +kernel) ?_
        refine Ok.iadd dL_law_316 ?_
        refine X.sld dL_law_317 e11 (fun v40 e12 => ?_)
        clear e11
        refine X.rck e12 (fun c fs hb hc e13 => ?_)
        clear e12
        obtain rfl := List.mem_singleton.mp hc
        refine X.callV (My := mX12_thing) (n := 2) (As := [.int v39, .int v40]) (T := (fun v => (some (.int v)))) (stk' := (fun v => [.int v, .int r36])) (rest := [.int r36]) (kc' := kc) (ks' := ks) dL_law_318 e13 (fun v h n e => k_X12_thing (d := d + 138) e) hb rfl wd1269 wd80 wd1267 wd1268 wd1266 (by decide +kernel) rfl (by decide) rfl rfl (Nat.le_of_ble_eq_true rfl) (by show kc ≤ 600000; omega) (by show ks ≤ 7302250; omega) rfl rfl (fun _ => rfl) (fun r41 h42 n43 e14 => ?_)
        clear e13
        refine X.icmp_eq (tgt := 1114) dL_law_321 (by decide) e14 (fun e15 => ?_) (fun e15 => ?_)
        · clear e14
          exact Ok.weakL (k_L_law_1114 (d := d) K18 (by omega) (by omega) e15) ⟨rfl, ⟨rfl, ⟨rfl, ⟨rfl, trivial⟩⟩⟩⟩
        · clear e14
          refine Ok.iconstV (v := (nI 0)) dL_law_324 (by decide +kernel) ?_
          exact X.zret dL_law_325 rfl (by show kc ≤ 600000; omega) (by show ks ≤ 7302250; omega) e15
      refine X.sw e6 (fun c4 e7 => ?_) (fun c4 e7 => ?_)
      · clear e6
        rw [c4]
        refine Ok.tableIn (off := 294) (tgt := 326) dL_law_32 (by decide) (by decide) (by decide +kernel) (by decide) ?_
        refine Ok.aload_n dL_law_326 rfl ?_
        refine Ok.aload_n dL_law_327 rfl ?_
        refine Ok.iload_n dL_law_328 rfl ?_
        refine Ok.iconstV (v := (nI 1)) dL_law_329 (by decide +kernel) ?_
        refine Ok.iadd dL_law_330 ?_
        refine X.sld dL_law_331 e7 (fun v44 e8 => ?_)
        clear e7
        refine Ok.aload_n dL_law_332 rfl ?_
        refine Ok.iload_n dL_law_333 rfl ?_
        refine Ok.iconstV (v := (nI 2)) dL_law_334 (by decide +kernel) ?_
        refine Ok.iadd dL_law_335 ?_
        refine X.sld dL_law_336 e8 (fun v45 e9 => ?_)
        clear e8
        refine X.rck e9 (fun c fs hb hc e10 => ?_)
        clear e9
        obtain rfl := List.mem_singleton.mp hc
        refine X.callV (My := mX11_of) (n := 2) (As := [.int v44, .int v45]) (T := (fun v => (some (.int v)))) (stk' := (fun v => [.int v])) (rest := []) (kc' := kc) (ks' := ks) dL_law_337 e10 (fun v h n e => k_X11_of (d := d + 139) e) hb rfl wd517 wd76 wd515 wd516 wd514 (by decide +kernel) rfl (by decide) rfl rfl (Nat.le_of_ble_eq_true rfl) (by show kc ≤ 600000; omega) (by show ks ≤ 7302250; omega) rfl rfl (fun _ => rfl) (fun r46 h47 n48 e11 => ?_)
        clear e10
        refine Ok.aload_n dL_law_340 rfl ?_
        refine Ok.aload_n dL_law_341 rfl ?_
        refine Ok.iload_n dL_law_342 rfl ?_
        refine Ok.iconstV (v := (nI 1)) dL_law_343 (by decide +kernel) ?_
        refine Ok.iadd dL_law_344 ?_
        refine X.sld dL_law_345 e11 (fun v49 e12 => ?_)
        clear e11
        refine Ok.aload_n dL_law_346 rfl ?_
        refine Ok.iload_n dL_law_347 rfl ?_
        refine Ok.iconstV (v := (nI 2)) dL_law_348 (by decide +kernel) ?_
        refine Ok.iadd dL_law_349 ?_
        refine X.sld dL_law_350 e12 (fun v50 e13 => ?_)
        clear e12
        refine X.rck e13 (fun c fs hb hc e14 => ?_)
        clear e13
        obtain rfl := List.mem_singleton.mp hc
        refine X.callV (My := mX12_of) (n := 2) (As := [.int v49, .int v50]) (T := (fun v => (some (.int v)))) (stk' := (fun v => [.int v, .int r46])) (rest := [.int r46]) (kc' := kc) (ks' := ks) dL_law_351 e14 (fun v h n e => k_X12_of (d := d + 138) e) hb rfl wd1274 wd80 wd1272 wd1273 wd1271 (by decide +kernel) rfl (by decide) rfl rfl (Nat.le_of_ble_eq_true rfl) (by show kc ≤ 600000; omega) (by show ks ≤ 7302250; omega) rfl rfl (fun _ => rfl) (fun r51 h52 n53 e15 => ?_)
        clear e14
        refine X.icmp_eq (tgt := 1114) dL_law_354 (by decide) e15 (fun e16 => ?_) (fun e16 => ?_)
        · clear e15
          exact Ok.weakL (k_L_law_1114 (d := d) K18 (by omega) (by omega) e16) ⟨rfl, ⟨rfl, ⟨rfl, ⟨rfl, trivial⟩⟩⟩⟩
        · clear e15
          refine Ok.iconstV (v := (nI 0)) dL_law_357 (by decide +kernel) ?_
          exact X.zret dL_law_358 rfl (by show kc ≤ 600000; omega) (by show ks ≤ 7302250; omega) e16
      refine X.sw e7 (fun c5 e8 => ?_) (fun c5 e8 => ?_)
      · clear e7
        rw [c5]
        refine Ok.tableIn (off := 327) (tgt := 359) dL_law_32 (by decide) (by decide) (by decide +kernel) (by decide) ?_
        refine Ok.aload_n dL_law_359 rfl ?_
        refine Ok.aload_n dL_law_360 rfl ?_
        refine Ok.iload_n dL_law_361 rfl ?_
        refine Ok.iconstV (v := (nI 1)) dL_law_362 (by decide +kernel) ?_
        refine Ok.iadd dL_law_363 ?_
        refine X.sld dL_law_364 e8 (fun v54 e9 => ?_)
        clear e8
        refine X.rck e9 (fun c fs hb hc e10 => ?_)
        clear e9
        obtain rfl := List.mem_singleton.mp hc
        refine X.callV (My := mX11_days) (n := 1) (As := [.int v54]) (T := (fun v => (some (.int v)))) (stk' := (fun v => [.int v])) (rest := []) (kc' := kc) (ks' := ks) dL_law_365 e10 (fun v h n e => k_X11_days (d := d + 136) e) hb rfl wd525 wd76 wd523 wd524 wd522 (by decide +kernel) rfl (by decide) rfl rfl (Nat.le_of_ble_eq_true rfl) (by show kc ≤ 600000; omega) (by show ks ≤ 7302250; omega) rfl rfl (fun _ => rfl) (fun r55 h56 n57 e11 => ?_)
        clear e10
        refine Ok.aload_n dL_law_368 rfl ?_
        refine Ok.aload_n dL_law_369 rfl ?_
        refine Ok.iload_n dL_law_370 rfl ?_
        refine Ok.iconstV (v := (nI 1)) dL_law_371 (by decide +kernel) ?_
        refine Ok.iadd dL_law_372 ?_
        refine X.sld dL_law_373 e11 (fun v58 e12 => ?_)
        clear e11
        refine X.rck e12 (fun c fs hb hc e13 => ?_)
        clear e12
        obtain rfl := List.mem_singleton.mp hc
        refine X.callV (My := mX12_days) (n := 1) (As := [.int v58]) (T := (fun v => (some (.int v)))) (stk' := (fun v => [.int v, .int r55])) (rest := [.int r55]) (kc' := kc) (ks' := ks) dL_law_374 e13 (fun v h n e => k_X12_days (d := d + 136) e) hb rfl wd1282 wd80 wd1280 wd1281 wd1279 (by decide +kernel) rfl (by decide) rfl rfl (Nat.le_of_ble_eq_true rfl) (by show kc ≤ 600000; omega) (by show ks ≤ 7302250; omega) rfl rfl (fun _ => rfl) (fun r59 h60 n61 e14 => ?_)
        clear e13
        refine X.icmp_eq (tgt := 1114) dL_law_377 (by decide) e14 (fun e15 => ?_) (fun e15 => ?_)
        · clear e14
          exact Ok.weakL (k_L_law_1114 (d := d) K18 (by omega) (by omega) e15) ⟨rfl, ⟨rfl, ⟨rfl, ⟨rfl, trivial⟩⟩⟩⟩
        · clear e14
          refine Ok.iconstV (v := (nI 0)) dL_law_380 (by decide +kernel) ?_
          exact X.zret dL_law_381 rfl (by show kc ≤ 600000; omega) (by show ks ≤ 7302250; omega) e15
      refine X.sw e8 (fun c6 e9 => ?_) (fun c6 e9 => ?_)
      · clear e8
        rw [c6]
        refine Ok.tableIn (off := 350) (tgt := 382) dL_law_32 (by decide) (by decide) (by decide +kernel) (by decide) ?_
        refine Ok.aload_n dL_law_382 rfl ?_
        refine Ok.aload_n dL_law_383 rfl ?_
        refine Ok.iload_n dL_law_384 rfl ?_
        refine Ok.iconstV (v := (nI 1)) dL_law_385 (by decide +kernel) ?_
        refine Ok.iadd dL_law_386 ?_
        refine X.sld dL_law_387 e9 (fun v62 e10 => ?_)
        clear e9
        refine Ok.aload_n dL_law_388 rfl ?_
        refine Ok.iload_n dL_law_389 rfl ?_
        refine Ok.iconstV (v := (nI 2)) dL_law_390 (by decide +kernel) ?_
        refine Ok.iadd dL_law_391 ?_
        refine X.sld dL_law_392 e10 (fun v63 e11 => ?_)
        clear e10
        refine X.if_eq (tgt := 400) dL_law_393 (by decide) e11 (fun e12 => ?_) (fun e12 => ?_)
        · clear e11
          refine Ok.iconstV (v := (nI 0)) dL_law_400 (by decide +kernel) ?_
          exact Ok.weakL (k_L_law_401 (d := d) K18 (by omega) (by omega) e12) ⟨rfl, ⟨rfl, ⟨rfl, ⟨rfl, trivial⟩⟩⟩⟩
        · clear e11
          refine Ok.iconstV (v := (nI 1)) dL_law_396 (by decide +kernel) ?_
          refine Ok.goto (tgt := 401) dL_law_397 (by decide) ?_
          exact Ok.weakL (k_L_law_401 (d := d) K18 (by omega) (by omega) e12) ⟨rfl, ⟨rfl, ⟨rfl, ⟨rfl, trivial⟩⟩⟩⟩
      refine X.sw e9 (fun c7 e10 => ?_) (fun c7 e10 => ?_)
      · clear e9
        rw [c7]
        refine Ok.tableIn (off := 399) (tgt := 431) dL_law_32 (by decide) (by decide) (by decide +kernel) (by decide) ?_
        refine Ok.aload_n dL_law_431 rfl ?_
        refine Ok.aload_n dL_law_432 rfl ?_
        refine Ok.iload_n dL_law_433 rfl ?_
        refine Ok.iconstV (v := (nI 1)) dL_law_434 (by decide +kernel) ?_
        refine Ok.iadd dL_law_435 ?_
        refine X.sld dL_law_436 e10 (fun v64 e11 => ?_)
        clear e10
        refine Ok.aload_n dL_law_437 rfl ?_
        refine Ok.iload_n dL_law_438 rfl ?_
        refine Ok.iconstV (v := (nI 2)) dL_law_439 (by decide +kernel) ?_
        refine Ok.iadd dL_law_440 ?_
        refine X.sld dL_law_441 e11 (fun v65 e12 => ?_)
        clear e11
        refine Ok.aload_n dL_law_442 rfl ?_
        refine Ok.iload_n dL_law_443 rfl ?_
        refine Ok.iconstV (v := (nI 3)) dL_law_444 (by decide +kernel) ?_
        refine Ok.iadd dL_law_445 ?_
        refine X.sld dL_law_446 e12 (fun v66 e13 => ?_)
        clear e12
        refine Ok.aload_n dL_law_447 rfl ?_
        refine Ok.iload_n dL_law_448 rfl ?_
        refine Ok.iconstV (v := (nI 4)) dL_law_449 (by decide +kernel) ?_
        refine Ok.iadd dL_law_450 ?_
        refine X.sld dL_law_451 e13 (fun v67 e14 => ?_)
        clear e13
        refine X.rck e14 (fun c fs hb hc e15 => ?_)
        clear e14
        obtain rfl := List.mem_singleton.mp hc
        refine X.callV (My := mX11_best) (n := 4) (As := [.int v64, .int v65, .int v66, .int v67]) (T := (fun v => (some (.long v)))) (stk' := (fun v => [.long v])) (rest := []) (kc' := kc) (ks' := ks) dL_law_452 e15 (fun v h n e => k_X11_best (d := d + 135) e) hb rfl wd549 wd76 wd547 wd548 wd546 (by decide +kernel) rfl (by decide) rfl rfl (Nat.le_of_ble_eq_true rfl) (by show kc ≤ 600000; omega) (by show ks ≤ 7302250; omega) rfl rfl (fun _ => rfl) (fun r68 h69 n70 e16 => ?_)
        clear e15
        refine Ok.aload_n dL_law_455 rfl ?_
        refine Ok.aload_n dL_law_456 rfl ?_
        refine Ok.iload_n dL_law_457 rfl ?_
        refine Ok.iconstV (v := (nI 1)) dL_law_458 (by decide +kernel) ?_
        refine Ok.iadd dL_law_459 ?_
        refine X.sld dL_law_460 e16 (fun v71 e17 => ?_)
        clear e16
        refine Ok.aload_n dL_law_461 rfl ?_
        refine Ok.iload_n dL_law_462 rfl ?_
        refine Ok.iconstV (v := (nI 2)) dL_law_463 (by decide +kernel) ?_
        refine Ok.iadd dL_law_464 ?_
        refine X.sld dL_law_465 e17 (fun v72 e18 => ?_)
        clear e17
        refine Ok.aload_n dL_law_466 rfl ?_
        refine Ok.iload_n dL_law_467 rfl ?_
        refine Ok.iconstV (v := (nI 3)) dL_law_468 (by decide +kernel) ?_
        refine Ok.iadd dL_law_469 ?_
        refine X.sld dL_law_470 e18 (fun v73 e19 => ?_)
        clear e18
        refine Ok.aload_n dL_law_471 rfl ?_
        refine Ok.iload_n dL_law_472 rfl ?_
        refine Ok.iconstV (v := (nI 4)) dL_law_473 (by decide +kernel) ?_
        refine Ok.iadd dL_law_474 ?_
        refine X.sld dL_law_475 e19 (fun v74 e20 => ?_)
        clear e19
        refine X.rck e20 (fun c fs hb hc e21 => ?_)
        clear e20
        obtain rfl := List.mem_singleton.mp hc
        refine X.callV (My := mX12_best) (n := 4) (As := [.int v71, .int v72, .int v73, .int v74]) (T := (fun v => (some (.long v)))) (stk' := (fun v => [.long v, .long r68])) (rest := [.long r68]) (kc' := kc) (ks' := ks) dL_law_476 e21 (fun v h n e => k_X12_best (d := d + 72) e) hb rfl wd1310 wd80 wd1308 wd1309 wd1307 (by decide +kernel) rfl (by decide) rfl rfl (Nat.le_of_ble_eq_true rfl) (by show kc ≤ 600000; omega) (by show ks ≤ 7302250; omega) rfl rfl (fun _ => rfl) (fun r75 h76 n77 e22 => ?_)
        clear e21
        refine Ok.lcmp dL_law_479 ?_
        refine X.if_eq (tgt := 1114) dL_law_480 (by decide) e22 (fun e23 => ?_) (fun e23 => ?_)
        · clear e22
          exact Ok.weakL (k_L_law_1114 (d := d) K18 (by omega) (by omega) e23) ⟨rfl, ⟨rfl, ⟨rfl, ⟨rfl, trivial⟩⟩⟩⟩
        · clear e22
          refine Ok.iconstV (v := (nI 0)) dL_law_483 (by decide +kernel) ?_
          exact X.zret dL_law_484 rfl (by show kc ≤ 600000; omega) (by show ks ≤ 7302250; omega) e23
      refine X.sw e10 (fun c8 e11 => ?_) (fun c8 e11 => ?_)
      · clear e10
        rw [c8]
        refine Ok.tableIn (off := 453) (tgt := 485) dL_law_32 (by decide) (by decide) (by decide +kernel) (by decide) ?_
        refine Ok.aload_n dL_law_485 rfl ?_
        refine Ok.aload_n dL_law_486 rfl ?_
        refine Ok.iload_n dL_law_487 rfl ?_
        refine Ok.iconstV (v := (nI 1)) dL_law_488 (by decide +kernel) ?_
        refine Ok.iadd dL_law_489 ?_
        refine X.sld dL_law_490 e11 (fun v78 e12 => ?_)
        clear e11
        refine Ok.aload_n dL_law_491 rfl ?_
        refine Ok.iload_n dL_law_492 rfl ?_
        refine Ok.iconstV (v := (nI 2)) dL_law_493 (by decide +kernel) ?_
        refine Ok.iadd dL_law_494 ?_
        refine X.sld dL_law_495 e12 (fun v79 e13 => ?_)
        clear e12
        refine X.rck e13 (fun c fs hb hc e14 => ?_)
        clear e13
        obtain rfl := List.mem_singleton.mp hc
        refine X.callV (My := mX11_number) (n := 2) (As := [.int v78, .int v79]) (T := (fun v => (some (.int v)))) (stk' := (fun v => [.int v])) (rest := []) (kc' := kc) (ks' := ks) dL_law_496 e14 (fun v h n e => k_X11_number (d := d + 135) e) hb rfl wd602 wd76 wd600 wd601 wd599 (by decide +kernel) rfl (by decide) rfl rfl (Nat.le_of_ble_eq_true rfl) (by show kc ≤ 600000; omega) (by show ks ≤ 7302250; omega) rfl rfl (fun _ => rfl) (fun r80 h81 n82 e15 => ?_)
        clear e14
        refine Ok.aload_n dL_law_499 rfl ?_
        refine Ok.aload_n dL_law_500 rfl ?_
        refine Ok.iload_n dL_law_501 rfl ?_
        refine Ok.iconstV (v := (nI 1)) dL_law_502 (by decide +kernel) ?_
        refine Ok.iadd dL_law_503 ?_
        refine X.sld dL_law_504 e15 (fun v83 e16 => ?_)
        clear e15
        refine Ok.aload_n dL_law_505 rfl ?_
        refine Ok.iload_n dL_law_506 rfl ?_
        refine Ok.iconstV (v := (nI 2)) dL_law_507 (by decide +kernel) ?_
        refine Ok.iadd dL_law_508 ?_
        refine X.sld dL_law_509 e16 (fun v84 e17 => ?_)
        clear e16
        refine X.rck e17 (fun c fs hb hc e18 => ?_)
        clear e17
        obtain rfl := List.mem_singleton.mp hc
        refine X.callV (My := mX12_number) (n := 2) (As := [.int v83, .int v84]) (T := (fun v => (some (.int v)))) (stk' := (fun v => [.int v, .int r80])) (rest := [.int r80]) (kc' := kc) (ks' := ks) dL_law_510 e18 (fun v h n e => k_X12_number (d := d + 70) e) hb rfl wd1336 wd80 wd1334 wd1335 wd1333 (by decide +kernel) rfl (by decide) rfl rfl (Nat.le_of_ble_eq_true rfl) (by show kc ≤ 600000; omega) (by show ks ≤ 7302250; omega) rfl rfl (fun _ => rfl) (fun r85 h86 n87 e19 => ?_)
        clear e18
        refine X.icmp_eq (tgt := 1114) dL_law_513 (by decide) e19 (fun e20 => ?_) (fun e20 => ?_)
        · clear e19
          exact Ok.weakL (k_L_law_1114 (d := d) K18 (by omega) (by omega) e20) ⟨rfl, ⟨rfl, ⟨rfl, ⟨rfl, trivial⟩⟩⟩⟩
        · clear e19
          refine Ok.iconstV (v := (nI 0)) dL_law_516 (by decide +kernel) ?_
          exact X.zret dL_law_517 rfl (by show kc ≤ 600000; omega) (by show ks ≤ 7302250; omega) e20
      refine X.sw e11 (fun c9 e12 => ?_) (fun c9 e12 => ?_)
      · clear e11
        rw [c9]
        refine Ok.tableIn (off := 486) (tgt := 518) dL_law_32 (by decide) (by decide) (by decide +kernel) (by decide) ?_
        refine Ok.aload_n dL_law_518 rfl ?_
        refine Ok.aload_n dL_law_519 rfl ?_
        refine Ok.iload_n dL_law_520 rfl ?_
        refine Ok.iconstV (v := (nI 1)) dL_law_521 (by decide +kernel) ?_
        refine Ok.iadd dL_law_522 ?_
        refine X.sld dL_law_523 e12 (fun v88 e13 => ?_)
        clear e12
        refine Ok.aload_n dL_law_524 rfl ?_
        refine Ok.iload_n dL_law_525 rfl ?_
        refine Ok.iconstV (v := (nI 2)) dL_law_526 (by decide +kernel) ?_
        refine Ok.iadd dL_law_527 ?_
        refine X.sld dL_law_528 e13 (fun v89 e14 => ?_)
        clear e13
        refine X.rck e14 (fun c fs hb hc e15 => ?_)
        clear e14
        obtain rfl := List.mem_singleton.mp hc
        refine X.callV (My := mX11_such) (n := 2) (As := [.int v88, .int v89]) (T := (fun v => (some (.int v)))) (stk' := (fun v => [.int v])) (rest := []) (kc' := kc) (ks' := ks) dL_law_529 e15 (fun v h n e => k_X11_such (d := d + 134) e) hb rfl wd611 wd76 wd609 wd610 wd608 (by decide +kernel) rfl (by decide) rfl rfl (Nat.le_of_ble_eq_true rfl) (by show kc ≤ 600000; omega) (by show ks ≤ 7302250; omega) rfl rfl (fun _ => rfl) (fun r90 h91 n92 e16 => ?_)
        clear e15
        refine Ok.aload_n dL_law_532 rfl ?_
        refine Ok.aload_n dL_law_533 rfl ?_
        refine Ok.iload_n dL_law_534 rfl ?_
        refine Ok.iconstV (v := (nI 1)) dL_law_535 (by decide +kernel) ?_
        refine Ok.iadd dL_law_536 ?_
        refine X.sld dL_law_537 e16 (fun v93 e17 => ?_)
        clear e16
        refine Ok.aload_n dL_law_538 rfl ?_
        refine Ok.iload_n dL_law_539 rfl ?_
        refine Ok.iconstV (v := (nI 2)) dL_law_540 (by decide +kernel) ?_
        refine Ok.iadd dL_law_541 ?_
        refine X.sld dL_law_542 e17 (fun v94 e18 => ?_)
        clear e17
        refine X.rck e18 (fun c fs hb hc e19 => ?_)
        clear e18
        obtain rfl := List.mem_singleton.mp hc
        refine X.callV (My := mX12_such) (n := 2) (As := [.int v93, .int v94]) (T := (fun v => (some (.int v)))) (stk' := (fun v => [.int v, .int r90])) (rest := [.int r90]) (kc' := kc) (ks' := ks) dL_law_543 e19 (fun v h n e => k_X12_such (d := d + 70) e) hb rfl wd1348 wd80 wd1346 wd1347 wd1345 (by decide +kernel) rfl (by decide) rfl rfl (Nat.le_of_ble_eq_true rfl) (by show kc ≤ 600000; omega) (by show ks ≤ 7302250; omega) rfl rfl (fun _ => rfl) (fun r95 h96 n97 e20 => ?_)
        clear e19
        refine X.icmp_eq (tgt := 1114) dL_law_546 (by decide) e20 (fun e21 => ?_) (fun e21 => ?_)
        · clear e20
          exact Ok.weakL (k_L_law_1114 (d := d) K18 (by omega) (by omega) e21) ⟨rfl, ⟨rfl, ⟨rfl, ⟨rfl, trivial⟩⟩⟩⟩
        · clear e20
          refine Ok.iconstV (v := (nI 0)) dL_law_549 (by decide +kernel) ?_
          exact X.zret dL_law_550 rfl (by show kc ≤ 600000; omega) (by show ks ≤ 7302250; omega) e21
      refine X.sw e12 (fun c10 e13 => ?_) (fun c10 e13 => ?_)
      · clear e12
        rw [c10]
        refine Ok.tableIn (off := 519) (tgt := 551) dL_law_32 (by decide) (by decide) (by decide +kernel) (by decide) ?_
        refine Ok.aload_n dL_law_551 rfl ?_
        refine Ok.aload_n dL_law_552 rfl ?_
        refine Ok.iload_n dL_law_553 rfl ?_
        refine Ok.iconstV (v := (nI 1)) dL_law_554 (by decide +kernel) ?_
        refine Ok.iadd dL_law_555 ?_
        refine X.sld dL_law_556 e13 (fun v98 e14 => ?_)
        clear e13
        refine X.rck e14 (fun c fs hb hc e15 => ?_)
        clear e14
        obtain rfl := List.mem_singleton.mp hc
        refine X.callV (My := mX11_looks) (n := 1) (As := [.int v98]) (T := (fun v => (some (.int v)))) (stk' := (fun v => [.int v])) (rest := []) (kc' := kc) (ks' := ks) dL_law_557 e15 (fun v h n e => k_X11_looks (d := d + 139) e) hb rfl wd616 wd76 wd614 wd615 wd613 (by decide +kernel) rfl (by decide) rfl rfl (Nat.le_of_ble_eq_true rfl) (by show kc ≤ 600000; omega) (by show ks ≤ 7302250; omega) rfl rfl (fun _ => rfl) (fun r99 h100 n101 e16 => ?_)
        clear e15
        refine Ok.aload_n dL_law_560 rfl ?_
        refine Ok.aload_n dL_law_561 rfl ?_
        refine Ok.iload_n dL_law_562 rfl ?_
        refine Ok.iconstV (v := (nI 1)) dL_law_563 (by decide +kernel) ?_
        refine Ok.iadd dL_law_564 ?_
        refine X.sld dL_law_565 e16 (fun v102 e17 => ?_)
        clear e16
        refine X.rck e17 (fun c fs hb hc e18 => ?_)
        clear e17
        obtain rfl := List.mem_singleton.mp hc
        refine X.callV (My := mX12_looks) (n := 1) (As := [.int v102]) (T := (fun v => (some (.int v)))) (stk' := (fun v => [.int v, .int r99])) (rest := [.int r99]) (kc' := kc) (ks' := ks) dL_law_566 e18 (fun v h n e => k_X12_looks (d := d + 139) e) hb rfl wd1352 wd80 wd1350 wd1351 wd1349 (by decide +kernel) rfl (by decide) rfl rfl (Nat.le_of_ble_eq_true rfl) (by show kc ≤ 600000; omega) (by show ks ≤ 7302250; omega) rfl rfl (fun _ => rfl) (fun r103 h104 n105 e19 => ?_)
        clear e18
        refine X.icmp_eq (tgt := 1114) dL_law_569 (by decide) e19 (fun e20 => ?_) (fun e20 => ?_)
        · clear e19
          exact Ok.weakL (k_L_law_1114 (d := d) K18 (by omega) (by omega) e20) ⟨rfl, ⟨rfl, ⟨rfl, ⟨rfl, trivial⟩⟩⟩⟩
        · clear e19
          refine Ok.iconstV (v := (nI 0)) dL_law_572 (by decide +kernel) ?_
          exact X.zret dL_law_573 rfl (by show kc ≤ 600000; omega) (by show ks ≤ 7302250; omega) e20
      refine X.sw e13 (fun c11 e14 => ?_) (fun c11 e14 => ?_)
      · clear e13
        rw [c11]
        refine Ok.tableIn (off := 542) (tgt := 574) dL_law_32 (by decide) (by decide) (by decide +kernel) (by decide) ?_
        refine Ok.aload_n dL_law_574 rfl ?_
        refine Ok.aload_n dL_law_575 rfl ?_
        refine Ok.iload_n dL_law_576 rfl ?_
        refine Ok.iconstV (v := (nI 1)) dL_law_577 (by decide +kernel) ?_
        refine Ok.iadd dL_law_578 ?_
        refine X.sld dL_law_579 e14 (fun v106 e15 => ?_)
        clear e14
        refine Ok.aload_n dL_law_580 rfl ?_
        refine Ok.iload_n dL_law_581 rfl ?_
        refine Ok.iconstV (v := (nI 2)) dL_law_582 (by decide +kernel) ?_
        refine Ok.iadd dL_law_583 ?_
        refine X.sld dL_law_584 e15 (fun v107 e16 => ?_)
        clear e15
        refine X.rck e16 (fun c fs hb hc e17 => ?_)
        clear e16
        obtain rfl := List.mem_singleton.mp hc
        refine X.callV (My := mX11_plan) (n := 2) (As := [.int v106, .int v107]) (T := (fun v => (some (.int v)))) (stk' := (fun v => [.int v])) (rest := []) (kc' := (kc + 7)) (ks' := (ks + 14)) dL_law_585 e17 (fun v h n e => k_X11_plan (d := d + 136) e) hb rfl wd620 wd76 wd618 wd619 wd617 (by decide +kernel) rfl (by decide) rfl rfl (Nat.le_of_ble_eq_true rfl) (by show (kc + 7) ≤ 600000; omega) (by show (ks + 14) ≤ 7302250; omega) rfl rfl (fun _ => rfl) (fun r108 h109 n110 e18 => ?_)
        clear e17
        refine Ok.aload_n dL_law_588 rfl ?_
        refine Ok.aload_n dL_law_589 rfl ?_
        refine Ok.iload_n dL_law_590 rfl ?_
        refine Ok.iconstV (v := (nI 1)) dL_law_591 (by decide +kernel) ?_
        refine Ok.iadd dL_law_592 ?_
        refine X.sld dL_law_593 e18 (fun v111 e19 => ?_)
        clear e18
        refine Ok.aload_n dL_law_594 rfl ?_
        refine Ok.iload_n dL_law_595 rfl ?_
        refine Ok.iconstV (v := (nI 2)) dL_law_596 (by decide +kernel) ?_
        refine Ok.iadd dL_law_597 ?_
        refine X.sld dL_law_598 e19 (fun v112 e20 => ?_)
        clear e19
        refine X.rck e20 (fun c fs hb hc e21 => ?_)
        clear e20
        obtain rfl := List.mem_singleton.mp hc
        refine X.callV (My := mX12_plan) (n := 2) (As := [.int v111, .int v112]) (T := (fun v => (some (.int v)))) (stk' := (fun v => [.int v, .int r108])) (rest := [.int r108]) (kc' := (kc + 7)) (ks' := (ks + 14)) dL_law_599 e21 (fun v h n e => k_X12_plan (d := d + 139) e) hb rfl wd1356 wd80 wd1354 wd1355 wd1353 (by decide +kernel) rfl (by decide) rfl rfl (Nat.le_of_ble_eq_true rfl) (by show (kc + 7) ≤ 600000; omega) (by show (ks + 14) ≤ 7302250; omega) rfl rfl (fun _ => rfl) (fun r113 h114 n115 e22 => ?_)
        clear e21
        refine X.icmp_eq (tgt := 1114) dL_law_602 (by decide) e22 (fun e23 => ?_) (fun e23 => ?_)
        · clear e22
          exact Ok.weakL (k_L_law_1114 (d := d) K18 (by omega) (by omega) e23) ⟨rfl, ⟨rfl, ⟨rfl, ⟨rfl, trivial⟩⟩⟩⟩
        · clear e22
          refine Ok.iconstV (v := (nI 0)) dL_law_605 (by decide +kernel) ?_
          exact X.zret dL_law_606 rfl (by show (kc + 7) ≤ 600000; omega) (by show (ks + 14) ≤ 7302250; omega) e23
      refine X.sw e14 (fun c12 e15 => ?_) (fun c12 e15 => ?_)
      · clear e14
        rw [c12]
        refine Ok.tableIn (off := 575) (tgt := 607) dL_law_32 (by decide) (by decide) (by decide +kernel) (by decide) ?_
        refine Ok.aload_n dL_law_607 rfl ?_
        refine Ok.aload_n dL_law_608 rfl ?_
        refine Ok.iload_n dL_law_609 rfl ?_
        refine Ok.iconstV (v := (nI 1)) dL_law_610 (by decide +kernel) ?_
        refine Ok.iadd dL_law_611 ?_
        refine X.sld dL_law_612 e15 (fun v116 e16 => ?_)
        clear e15
        refine Ok.aload_n dL_law_613 rfl ?_
        refine Ok.iload_n dL_law_614 rfl ?_
        refine Ok.iconstV (v := (nI 2)) dL_law_615 (by decide +kernel) ?_
        refine Ok.iadd dL_law_616 ?_
        refine X.sld dL_law_617 e16 (fun v117 e17 => ?_)
        clear e16
        refine X.rck e17 (fun c fs hb hc e18 => ?_)
        clear e17
        obtain rfl := List.mem_singleton.mp hc
        refine X.callV (My := mX11_row) (n := 2) (As := [.int v116, .int v117]) (T := (fun v => (some (.int v)))) (stk' := (fun v => [.int v])) (rest := []) (kc' := kc) (ks' := ks) dL_law_618 e18 (fun v h n e => k_X11_row (d := d + 139) e) hb rfl wd711 wd76 wd709 wd710 wd708 (by decide +kernel) rfl (by decide) rfl rfl (Nat.le_of_ble_eq_true rfl) (by show kc ≤ 600000; omega) (by show ks ≤ 7302250; omega) rfl rfl (fun _ => rfl) (fun r118 h119 n120 e19 => ?_)
        clear e18
        refine Ok.aload_n dL_law_621 rfl ?_
        refine Ok.aload_n dL_law_622 rfl ?_
        refine Ok.iload_n dL_law_623 rfl ?_
        refine Ok.iconstV (v := (nI 1)) dL_law_624 (by decide +kernel) ?_
        refine Ok.iadd dL_law_625 ?_
        refine X.sld dL_law_626 e19 (fun v121 e20 => ?_)
        clear e19
        refine Ok.aload_n dL_law_627 rfl ?_
        refine Ok.iload_n dL_law_628 rfl ?_
        refine Ok.iconstV (v := (nI 2)) dL_law_629 (by decide +kernel) ?_
        refine Ok.iadd dL_law_630 ?_
        refine X.sld dL_law_631 e20 (fun v122 e21 => ?_)
        clear e20
        refine X.rck e21 (fun c fs hb hc e22 => ?_)
        clear e21
        obtain rfl := List.mem_singleton.mp hc
        refine X.callV (My := mX12_row) (n := 2) (As := [.int v121, .int v122]) (T := (fun v => (some (.int v)))) (stk' := (fun v => [.int v, .int r118])) (rest := [.int r118]) (kc' := kc) (ks' := ks) dL_law_632 e22 (fun v h n e => k_X12_row (d := d + 138) e) hb rfl wd1360 wd80 wd1358 wd1359 wd1357 (by decide +kernel) rfl (by decide) rfl rfl (Nat.le_of_ble_eq_true rfl) (by show kc ≤ 600000; omega) (by show ks ≤ 7302250; omega) rfl rfl (fun _ => rfl) (fun r123 h124 n125 e23 => ?_)
        clear e22
        refine X.icmp_eq (tgt := 1114) dL_law_635 (by decide) e23 (fun e24 => ?_) (fun e24 => ?_)
        · clear e23
          exact Ok.weakL (k_L_law_1114 (d := d) K18 (by omega) (by omega) e24) ⟨rfl, ⟨rfl, ⟨rfl, ⟨rfl, trivial⟩⟩⟩⟩
        · clear e23
          refine Ok.iconstV (v := (nI 0)) dL_law_638 (by decide +kernel) ?_
          exact X.zret dL_law_639 rfl (by show kc ≤ 600000; omega) (by show ks ≤ 7302250; omega) e24
      refine X.sw e15 (fun c13 e16 => ?_) (fun c13 e16 => ?_)
      · clear e15
        rw [c13]
        refine Ok.tableIn (off := 608) (tgt := 640) dL_law_32 (by decide) (by decide) (by decide +kernel) (by decide) ?_
        refine Ok.aload_n dL_law_640 rfl ?_
        refine Ok.aload_n dL_law_641 rfl ?_
        refine Ok.iload_n dL_law_642 rfl ?_
        refine Ok.iconstV (v := (nI 1)) dL_law_643 (by decide +kernel) ?_
        refine Ok.iadd dL_law_644 ?_
        refine X.sld dL_law_645 e16 (fun v126 e17 => ?_)
        clear e16
        refine X.rck e17 (fun c fs hb hc e18 => ?_)
        clear e17
        obtain rfl := List.mem_singleton.mp hc
        refine X.callV (My := mX11_whom) (n := 1) (As := [.int v126]) (T := (fun v => (some (.int v)))) (stk' := (fun v => [.int v])) (rest := []) (kc' := kc) (ks' := ks) dL_law_646 e18 (fun v h n e => k_X11_whom (d := d + 133) e) hb rfl wd719 wd76 wd717 wd718 wd716 (by decide +kernel) rfl (by decide) rfl rfl (Nat.le_of_ble_eq_true rfl) (by show kc ≤ 600000; omega) (by show ks ≤ 7302250; omega) rfl rfl (fun _ => rfl) (fun r127 h128 n129 e19 => ?_)
        clear e18
        refine Ok.aload_n dL_law_649 rfl ?_
        refine Ok.aload_n dL_law_650 rfl ?_
        refine Ok.iload_n dL_law_651 rfl ?_
        refine Ok.iconstV (v := (nI 1)) dL_law_652 (by decide +kernel) ?_
        refine Ok.iadd dL_law_653 ?_
        refine X.sld dL_law_654 e19 (fun v130 e20 => ?_)
        clear e19
        refine X.rck e20 (fun c fs hb hc e21 => ?_)
        clear e20
        obtain rfl := List.mem_singleton.mp hc
        refine X.callV (My := mX12_whom) (n := 1) (As := [.int v130]) (T := (fun v => (some (.int v)))) (stk' := (fun v => [.int v, .int r127])) (rest := [.int r127]) (kc' := kc) (ks' := ks) dL_law_655 e21 (fun v h n e => k_X12_whom (d := d + 67) e) hb rfl wd1368 wd80 wd1366 wd1367 wd1365 (by decide +kernel) rfl (by decide) rfl rfl (Nat.le_of_ble_eq_true rfl) (by show kc ≤ 600000; omega) (by show ks ≤ 7302250; omega) rfl rfl (fun _ => rfl) (fun r131 h132 n133 e22 => ?_)
        clear e21
        refine X.icmp_eq (tgt := 1114) dL_law_658 (by decide) e22 (fun e23 => ?_) (fun e23 => ?_)
        · clear e22
          exact Ok.weakL (k_L_law_1114 (d := d) K18 (by omega) (by omega) e23) ⟨rfl, ⟨rfl, ⟨rfl, ⟨rfl, trivial⟩⟩⟩⟩
        · clear e22
          refine Ok.iconstV (v := (nI 0)) dL_law_661 (by decide +kernel) ?_
          exact X.zret dL_law_662 rfl (by show kc ≤ 600000; omega) (by show ks ≤ 7302250; omega) e23
      refine X.sw e16 (fun c14 e17 => ?_) (fun c14 e17 => ?_)
      · clear e16
        rw [c14]
        refine Ok.tableIn (off := 631) (tgt := 663) dL_law_32 (by decide) (by decide) (by decide +kernel) (by decide) ?_
        refine Ok.aload_n dL_law_663 rfl ?_
        refine Ok.aload_n dL_law_664 rfl ?_
        refine Ok.iload_n dL_law_665 rfl ?_
        refine Ok.iconstV (v := (nI 1)) dL_law_666 (by decide +kernel) ?_
        refine Ok.iadd dL_law_667 ?_
        refine X.sld dL_law_668 e17 (fun v134 e18 => ?_)
        clear e17
        refine Ok.aload_n dL_law_669 rfl ?_
        refine Ok.iload_n dL_law_670 rfl ?_
        refine Ok.iconstV (v := (nI 2)) dL_law_671 (by decide +kernel) ?_
        refine Ok.iadd dL_law_672 ?_
        refine X.sld dL_law_673 e18 (fun v135 e19 => ?_)
        clear e18
        refine X.rck e19 (fun c fs hb hc e20 => ?_)
        clear e19
        obtain rfl := List.mem_singleton.mp hc
        refine X.callV (My := mX11_mean) (n := 2) (As := [.int v134, .int v135]) (T := (fun v => (some (.long v)))) (stk' := (fun v => [.long v])) (rest := []) (kc' := kc) (ks' := ks) dL_law_674 e20 (fun v h n e => k_X11_mean (d := d + 69) e) hb rfl wd811 wd76 wd809 wd810 wd808 (by decide +kernel) rfl (by decide) rfl rfl (Nat.le_of_ble_eq_true rfl) (by show kc ≤ 600000; omega) (by show ks ≤ 7302250; omega) rfl rfl (fun _ => rfl) (fun r136 h137 n138 e21 => ?_)
        clear e20
        refine Ok.aload_n dL_law_677 rfl ?_
        refine Ok.aload_n dL_law_678 rfl ?_
        refine Ok.iload_n dL_law_679 rfl ?_
        refine Ok.iconstV (v := (nI 1)) dL_law_680 (by decide +kernel) ?_
        refine Ok.iadd dL_law_681 ?_
        refine X.sld dL_law_682 e21 (fun v139 e22 => ?_)
        clear e21
        refine Ok.aload_n dL_law_683 rfl ?_
        refine Ok.iload_n dL_law_684 rfl ?_
        refine Ok.iconstV (v := (nI 2)) dL_law_685 (by decide +kernel) ?_
        refine Ok.iadd dL_law_686 ?_
        refine X.sld dL_law_687 e22 (fun v140 e23 => ?_)
        clear e22
        refine X.rck e23 (fun c fs hb hc e24 => ?_)
        clear e23
        obtain rfl := List.mem_singleton.mp hc
        refine X.callV (My := mX12_mean) (n := 2) (As := [.int v139, .int v140]) (T := (fun v => (some (.long v)))) (stk' := (fun v => [.long v, .long r136])) (rest := [.long r136]) (kc' := kc) (ks' := ks) dL_law_688 e24 (fun v h n e => k_X12_mean (d := d + 1) e) hb rfl wd1399 wd80 wd1397 wd1398 wd1396 (by decide +kernel) rfl (by decide) rfl rfl (Nat.le_of_ble_eq_true rfl) (by show kc ≤ 600000; omega) (by show ks ≤ 7302250; omega) rfl rfl (fun _ => rfl) (fun r141 h142 n143 e25 => ?_)
        clear e24
        refine Ok.lcmp dL_law_691 ?_
        refine X.if_eq (tgt := 1114) dL_law_692 (by decide) e25 (fun e26 => ?_) (fun e26 => ?_)
        · clear e25
          exact Ok.weakL (k_L_law_1114 (d := d) K18 (by omega) (by omega) e26) ⟨rfl, ⟨rfl, ⟨rfl, ⟨rfl, trivial⟩⟩⟩⟩
        · clear e25
          refine Ok.iconstV (v := (nI 0)) dL_law_695 (by decide +kernel) ?_
          exact X.zret dL_law_696 rfl (by show kc ≤ 600000; omega) (by show ks ≤ 7302250; omega) e26
      refine X.sw e17 (fun c15 e18 => ?_) (fun c15 e18 => ?_)
      · clear e17
        rw [c15]
        refine Ok.tableIn (off := 665) (tgt := 697) dL_law_32 (by decide) (by decide) (by decide +kernel) (by decide) ?_
        refine Ok.aload_n dL_law_697 rfl ?_
        refine Ok.aload_n dL_law_698 rfl ?_
        refine Ok.iload_n dL_law_699 rfl ?_
        refine Ok.iconstV (v := (nI 1)) dL_law_700 (by decide +kernel) ?_
        refine Ok.iadd dL_law_701 ?_
        refine X.sld dL_law_702 e18 (fun v144 e19 => ?_)
        clear e18
        refine Ok.aload_n dL_law_703 rfl ?_
        refine Ok.iload_n dL_law_704 rfl ?_
        refine Ok.iconstV (v := (nI 2)) dL_law_705 (by decide +kernel) ?_
        refine Ok.iadd dL_law_706 ?_
        refine X.sld dL_law_707 e19 (fun v145 e20 => ?_)
        clear e19
        refine X.rck e20 (fun c fs hb hc e21 => ?_)
        clear e20
        obtain rfl := List.mem_singleton.mp hc
        refine X.callV (My := mX11_all) (n := 2) (As := [.int v144, .int v145]) (T := (fun v => (some (.long v)))) (stk' := (fun v => [.long v])) (rest := []) (kc' := kc) (ks' := ks) dL_law_708 e21 (fun v h n e => k_X11_all (d := d + 69) e) hb rfl wd859 wd76 wd857 wd858 wd856 (by decide +kernel) rfl (by decide) rfl rfl (Nat.le_of_ble_eq_true rfl) (by show kc ≤ 600000; omega) (by show ks ≤ 7302250; omega) rfl rfl (fun _ => rfl) (fun r146 h147 n148 e22 => ?_)
        clear e21
        refine Ok.aload_n dL_law_711 rfl ?_
        refine Ok.aload_n dL_law_712 rfl ?_
        refine Ok.iload_n dL_law_713 rfl ?_
        refine Ok.iconstV (v := (nI 1)) dL_law_714 (by decide +kernel) ?_
        refine Ok.iadd dL_law_715 ?_
        refine X.sld dL_law_716 e22 (fun v149 e23 => ?_)
        clear e22
        refine Ok.aload_n dL_law_717 rfl ?_
        refine Ok.iload_n dL_law_718 rfl ?_
        refine Ok.iconstV (v := (nI 2)) dL_law_719 (by decide +kernel) ?_
        refine Ok.iadd dL_law_720 ?_
        refine X.sld dL_law_721 e23 (fun v150 e24 => ?_)
        clear e23
        refine X.rck e24 (fun c fs hb hc e25 => ?_)
        clear e24
        obtain rfl := List.mem_singleton.mp hc
        refine X.callV (My := mX12_all) (n := 2) (As := [.int v149, .int v150]) (T := (fun v => (some (.long v)))) (stk' := (fun v => [.long v, .long r146])) (rest := [.long r146]) (kc' := kc) (ks' := ks) dL_law_722 e25 (fun v h n e => k_X12_all (d := d + 0) e) hb rfl wd1419 wd80 wd1417 wd1418 wd1416 (by decide +kernel) rfl (by decide) rfl rfl (Nat.le_of_ble_eq_true rfl) (by show kc ≤ 600000; omega) (by show ks ≤ 7302250; omega) rfl rfl (fun _ => rfl) (fun r151 h152 n153 e26 => ?_)
        clear e25
        refine Ok.lcmp dL_law_725 ?_
        refine X.if_eq (tgt := 1114) dL_law_726 (by decide) e26 (fun e27 => ?_) (fun e27 => ?_)
        · clear e26
          exact Ok.weakL (k_L_law_1114 (d := d) K18 (by omega) (by omega) e27) ⟨rfl, ⟨rfl, ⟨rfl, ⟨rfl, trivial⟩⟩⟩⟩
        · clear e26
          refine Ok.iconstV (v := (nI 0)) dL_law_729 (by decide +kernel) ?_
          exact X.zret dL_law_730 rfl (by show kc ≤ 600000; omega) (by show ks ≤ 7302250; omega) e27
      refine X.sw e18 (fun c16 e19 => ?_) (fun c16 e19 => ?_)
      · clear e18
        rw [c16]
        refine Ok.tableIn (off := 699) (tgt := 731) dL_law_32 (by decide) (by decide) (by decide +kernel) (by decide) ?_
        refine Ok.aload_n dL_law_731 rfl ?_
        refine Ok.aload_n dL_law_732 rfl ?_
        refine Ok.iload_n dL_law_733 rfl ?_
        refine Ok.iconstV (v := (nI 1)) dL_law_734 (by decide +kernel) ?_
        refine Ok.iadd dL_law_735 ?_
        refine X.sld dL_law_736 e19 (fun v154 e20 => ?_)
        clear e19
        refine Ok.aload_n dL_law_737 rfl ?_
        refine Ok.iload_n dL_law_738 rfl ?_
        refine Ok.iconstV (v := (nI 2)) dL_law_739 (by decide +kernel) ?_
        refine Ok.iadd dL_law_740 ?_
        refine X.sld dL_law_741 e20 (fun v155 e21 => ?_)
        clear e20
        refine X.rck e21 (fun c fs hb hc e22 => ?_)
        clear e21
        obtain rfl := List.mem_singleton.mp hc
        refine X.callV (My := mX11_loses) (n := 2) (As := [.int v154, .int v155]) (T := (fun v => (some (.long v)))) (stk' := (fun v => [.long v])) (rest := []) (kc' := kc) (ks' := ks) dL_law_742 e22 (fun v h n e => k_X11_loses (d := d + 69) e) hb rfl wd873 wd76 wd871 wd872 wd870 (by decide +kernel) rfl (by decide) rfl rfl (Nat.le_of_ble_eq_true rfl) (by show kc ≤ 600000; omega) (by show ks ≤ 7302250; omega) rfl rfl (fun _ => rfl) (fun r156 h157 n158 e23 => ?_)
        clear e22
        refine Ok.aload_n dL_law_745 rfl ?_
        refine Ok.aload_n dL_law_746 rfl ?_
        refine Ok.iload_n dL_law_747 rfl ?_
        refine Ok.iconstV (v := (nI 1)) dL_law_748 (by decide +kernel) ?_
        refine Ok.iadd dL_law_749 ?_
        refine X.sld dL_law_750 e23 (fun v159 e24 => ?_)
        clear e23
        refine Ok.aload_n dL_law_751 rfl ?_
        refine Ok.iload_n dL_law_752 rfl ?_
        refine Ok.iconstV (v := (nI 2)) dL_law_753 (by decide +kernel) ?_
        refine Ok.iadd dL_law_754 ?_
        refine X.sld dL_law_755 e24 (fun v160 e25 => ?_)
        clear e24
        refine X.rck e25 (fun c fs hb hc e26 => ?_)
        clear e25
        obtain rfl := List.mem_singleton.mp hc
        refine X.callV (My := mX12_loses) (n := 2) (As := [.int v159, .int v160]) (T := (fun v => (some (.long v)))) (stk' := (fun v => [.long v, .long r156])) (rest := [.long r156]) (kc' := kc) (ks' := ks) dL_law_756 e26 (fun v h n e => k_X12_loses (d := d + 0) e) hb rfl wd1427 wd80 wd1425 wd1426 wd1424 (by decide +kernel) rfl (by decide) rfl rfl (Nat.le_of_ble_eq_true rfl) (by show kc ≤ 600000; omega) (by show ks ≤ 7302250; omega) rfl rfl (fun _ => rfl) (fun r161 h162 n163 e27 => ?_)
        clear e26
        refine Ok.lcmp dL_law_759 ?_
        refine X.if_eq (tgt := 1114) dL_law_760 (by decide) e27 (fun e28 => ?_) (fun e28 => ?_)
        · clear e27
          exact Ok.weakL (k_L_law_1114 (d := d) K18 (by omega) (by omega) e28) ⟨rfl, ⟨rfl, ⟨rfl, ⟨rfl, trivial⟩⟩⟩⟩
        · clear e27
          refine Ok.iconstV (v := (nI 0)) dL_law_763 (by decide +kernel) ?_
          exact X.zret dL_law_764 rfl (by show kc ≤ 600000; omega) (by show ks ≤ 7302250; omega) e28
      refine X.sw e19 (fun c17 e20 => ?_) (fun c17 e20 => ?_)
      · clear e19
        rw [c17]
        refine Ok.tableIn (off := 733) (tgt := 765) dL_law_32 (by decide) (by decide) (by decide +kernel) (by decide) ?_
        refine Ok.aload_n dL_law_765 rfl ?_
        refine Ok.aload_n dL_law_766 rfl ?_
        refine Ok.iload_n dL_law_767 rfl ?_
        refine Ok.iconstV (v := (nI 1)) dL_law_768 (by decide +kernel) ?_
        refine Ok.iadd dL_law_769 ?_
        refine X.sld dL_law_770 e20 (fun v164 e21 => ?_)
        clear e20
        refine X.rck e21 (fun c fs hb hc e22 => ?_)
        clear e21
        obtain rfl := List.mem_singleton.mp hc
        refine X.callV (My := mX11_bound) (n := 1) (As := [.int v164]) (T := (fun v => (some (.long v)))) (stk' := (fun v => [.long v])) (rest := []) (kc' := kc) (ks' := ks) dL_law_771 e22 (fun v h n e => k_X11_bound (d := d + 134) e) hb rfl wd877 wd76 wd875 wd876 wd874 (by decide +kernel) rfl (by decide) rfl rfl (Nat.le_of_ble_eq_true rfl) (by show kc ≤ 600000; omega) (by show ks ≤ 7302250; omega) rfl rfl (fun _ => rfl) (fun r165 h166 n167 e23 => ?_)
        clear e22
        refine Ok.aload_n dL_law_774 rfl ?_
        refine Ok.aload_n dL_law_775 rfl ?_
        refine Ok.iload_n dL_law_776 rfl ?_
        refine Ok.iconstV (v := (nI 1)) dL_law_777 (by decide +kernel) ?_
        refine Ok.iadd dL_law_778 ?_
        refine X.sld dL_law_779 e23 (fun v168 e24 => ?_)
        clear e23
        refine X.rck e24 (fun c fs hb hc e25 => ?_)
        clear e24
        obtain rfl := List.mem_singleton.mp hc
        refine X.callV (My := mX12_bound) (n := 1) (As := [.int v168]) (T := (fun v => (some (.long v)))) (stk' := (fun v => [.long v, .long r165])) (rest := [.long r165]) (kc' := kc) (ks' := ks) dL_law_780 e25 (fun v h n e => k_X12_bound (d := d + 72) e) hb rfl wd1432 wd80 wd1430 wd1431 wd1429 (by decide +kernel) rfl (by decide) rfl rfl (Nat.le_of_ble_eq_true rfl) (by show kc ≤ 600000; omega) (by show ks ≤ 7302250; omega) rfl rfl (fun _ => rfl) (fun r169 h170 n171 e26 => ?_)
        clear e25
        refine Ok.lcmp dL_law_783 ?_
        refine X.if_eq (tgt := 1114) dL_law_784 (by decide) e26 (fun e27 => ?_) (fun e27 => ?_)
        · clear e26
          exact Ok.weakL (k_L_law_1114 (d := d) K18 (by omega) (by omega) e27) ⟨rfl, ⟨rfl, ⟨rfl, ⟨rfl, trivial⟩⟩⟩⟩
        · clear e26
          refine Ok.iconstV (v := (nI 0)) dL_law_787 (by decide +kernel) ?_
          exact X.zret dL_law_788 rfl (by show kc ≤ 600000; omega) (by show ks ≤ 7302250; omega) e27
      refine X.sw e20 (fun c18 e21 => ?_) (fun c18 e21 => ?_)
      · clear e20
        rw [c18]
        refine Ok.tableIn (off := 757) (tgt := 789) dL_law_32 (by decide) (by decide) (by decide +kernel) (by decide) ?_
        refine Ok.aload_n dL_law_789 rfl ?_
        refine Ok.aload_n dL_law_790 rfl ?_
        refine Ok.iload_n dL_law_791 rfl ?_
        refine Ok.iconstV (v := (nI 1)) dL_law_792 (by decide +kernel) ?_
        refine Ok.iadd dL_law_793 ?_
        refine X.sld dL_law_794 e21 (fun v172 e22 => ?_)
        clear e21
        refine Ok.aload_n dL_law_795 rfl ?_
        refine Ok.iload_n dL_law_796 rfl ?_
        refine Ok.iconstV (v := (nI 2)) dL_law_797 (by decide +kernel) ?_
        refine Ok.iadd dL_law_798 ?_
        refine X.sld dL_law_799 e22 (fun v173 e23 => ?_)
        clear e22
        refine X.rck e23 (fun c fs hb hc e24 => ?_)
        clear e23
        obtain rfl := List.mem_singleton.mp hc
        refine X.callV (My := mX11_judged) (n := 2) (As := [.int v172, .int v173]) (T := (fun v => (some (.int v)))) (stk' := (fun v => [.int v])) (rest := []) (kc' := kc) (ks' := ks) dL_law_800 e24 (fun v h n e => k_X11_judged (d := d + 134) e) hb rfl wd890 wd76 wd888 wd889 wd887 (by decide +kernel) rfl (by decide) rfl rfl (Nat.le_of_ble_eq_true rfl) (by show kc ≤ 600000; omega) (by show ks ≤ 7302250; omega) rfl rfl (fun _ => rfl) (fun r174 h175 n176 e25 => ?_)
        clear e24
        refine Ok.aload_n dL_law_803 rfl ?_
        refine Ok.aload_n dL_law_804 rfl ?_
        refine Ok.iload_n dL_law_805 rfl ?_
        refine Ok.iconstV (v := (nI 1)) dL_law_806 (by decide +kernel) ?_
        refine Ok.iadd dL_law_807 ?_
        refine X.sld dL_law_808 e25 (fun v177 e26 => ?_)
        clear e25
        refine Ok.aload_n dL_law_809 rfl ?_
        refine Ok.iload_n dL_law_810 rfl ?_
        refine Ok.iconstV (v := (nI 2)) dL_law_811 (by decide +kernel) ?_
        refine Ok.iadd dL_law_812 ?_
        refine X.sld dL_law_813 e26 (fun v178 e27 => ?_)
        clear e26
        refine X.rck e27 (fun c fs hb hc e28 => ?_)
        clear e27
        obtain rfl := List.mem_singleton.mp hc
        refine X.callV (My := mX12_judged) (n := 2) (As := [.int v177, .int v178]) (T := (fun v => (some (.int v)))) (stk' := (fun v => [.int v, .int r174])) (rest := [.int r174]) (kc' := kc) (ks' := ks) dL_law_814 e28 (fun v h n e => k_X12_judged (d := d + 67) e) hb rfl wd1437 wd80 wd1435 wd1436 wd1434 (by decide +kernel) rfl (by decide) rfl rfl (Nat.le_of_ble_eq_true rfl) (by show kc ≤ 600000; omega) (by show ks ≤ 7302250; omega) rfl rfl (fun _ => rfl) (fun r179 h180 n181 e29 => ?_)
        clear e28
        refine X.icmp_eq (tgt := 1114) dL_law_817 (by decide) e29 (fun e30 => ?_) (fun e30 => ?_)
        · clear e29
          exact Ok.weakL (k_L_law_1114 (d := d) K18 (by omega) (by omega) e30) ⟨rfl, ⟨rfl, ⟨rfl, ⟨rfl, trivial⟩⟩⟩⟩
        · clear e29
          refine Ok.iconstV (v := (nI 0)) dL_law_820 (by decide +kernel) ?_
          exact X.zret dL_law_821 rfl (by show kc ≤ 600000; omega) (by show ks ≤ 7302250; omega) e30
      refine X.sw e21 (fun c19 e22 => ?_) (fun c19 e22 => ?_)
      · clear e21
        rw [c19]
        refine Ok.tableIn (off := 790) (tgt := 822) dL_law_32 (by decide) (by decide) (by decide +kernel) (by decide) ?_
        refine Ok.aload_n dL_law_822 rfl ?_
        refine Ok.aload_n dL_law_823 rfl ?_
        refine Ok.iload_n dL_law_824 rfl ?_
        refine Ok.iconstV (v := (nI 1)) dL_law_825 (by decide +kernel) ?_
        refine Ok.iadd dL_law_826 ?_
        refine X.sld dL_law_827 e22 (fun v182 e23 => ?_)
        clear e22
        refine Ok.aload_n dL_law_828 rfl ?_
        refine Ok.iload_n dL_law_829 rfl ?_
        refine Ok.iconstV (v := (nI 2)) dL_law_830 (by decide +kernel) ?_
        refine Ok.iadd dL_law_831 ?_
        refine X.sld dL_law_832 e23 (fun v183 e24 => ?_)
        clear e23
        refine Ok.aload_n dL_law_833 rfl ?_
        refine Ok.iload_n dL_law_834 rfl ?_
        refine Ok.iconstV (v := (nI 3)) dL_law_835 (by decide +kernel) ?_
        refine Ok.iadd dL_law_836 ?_
        refine X.sld dL_law_837 e24 (fun v184 e25 => ?_)
        clear e24
        refine X.rck e25 (fun c fs hb hc e26 => ?_)
        clear e25
        obtain rfl := List.mem_singleton.mp hc
        refine X.callV (My := mX11_run) (n := 3) (As := [.int v182, .int v183, .int v184]) (T := (fun v => (some (.long v)))) (stk' := (fun v => [.long v])) (rest := []) (kc' := kc) (ks' := ks) dL_law_838 e26 (fun v h n e => k_X11_run (d := d + 133) e) hb rfl wd908 wd76 wd906 wd907 wd905 (by decide +kernel) rfl (by decide) rfl rfl (Nat.le_of_ble_eq_true rfl) (by show kc ≤ 600000; omega) (by show ks ≤ 7302250; omega) rfl rfl (fun _ => rfl) (fun r185 h186 n187 e27 => ?_)
        clear e26
        refine Ok.aload_n dL_law_841 rfl ?_
        refine Ok.aload_n dL_law_842 rfl ?_
        refine Ok.iload_n dL_law_843 rfl ?_
        refine Ok.iconstV (v := (nI 1)) dL_law_844 (by decide +kernel) ?_
        refine Ok.iadd dL_law_845 ?_
        refine X.sld dL_law_846 e27 (fun v188 e28 => ?_)
        clear e27
        refine Ok.aload_n dL_law_847 rfl ?_
        refine Ok.iload_n dL_law_848 rfl ?_
        refine Ok.iconstV (v := (nI 2)) dL_law_849 (by decide +kernel) ?_
        refine Ok.iadd dL_law_850 ?_
        refine X.sld dL_law_851 e28 (fun v189 e29 => ?_)
        clear e28
        refine Ok.aload_n dL_law_852 rfl ?_
        refine Ok.iload_n dL_law_853 rfl ?_
        refine Ok.iconstV (v := (nI 3)) dL_law_854 (by decide +kernel) ?_
        refine Ok.iadd dL_law_855 ?_
        refine X.sld dL_law_856 e29 (fun v190 e30 => ?_)
        clear e29
        refine X.rck e30 (fun c fs hb hc e31 => ?_)
        clear e30
        obtain rfl := List.mem_singleton.mp hc
        refine X.callV (My := mX12_run) (n := 3) (As := [.int v188, .int v189, .int v190]) (T := (fun v => (some (.long v)))) (stk' := (fun v => [.long v, .long r185])) (rest := [.long r185]) (kc' := kc) (ks' := ks) dL_law_857 e31 (fun v h n e => k_X12_run (d := d + 67) e) hb rfl wd1450 wd80 wd1448 wd1449 wd1447 (by decide +kernel) rfl (by decide) rfl rfl (Nat.le_of_ble_eq_true rfl) (by show kc ≤ 600000; omega) (by show ks ≤ 7302250; omega) rfl rfl (fun _ => rfl) (fun r191 h192 n193 e32 => ?_)
        clear e31
        refine Ok.lcmp dL_law_860 ?_
        refine X.if_eq (tgt := 1114) dL_law_861 (by decide) e32 (fun e33 => ?_) (fun e33 => ?_)
        · clear e32
          exact Ok.weakL (k_L_law_1114 (d := d) K18 (by omega) (by omega) e33) ⟨rfl, ⟨rfl, ⟨rfl, ⟨rfl, trivial⟩⟩⟩⟩
        · clear e32
          refine Ok.iconstV (v := (nI 0)) dL_law_864 (by decide +kernel) ?_
          exact X.zret dL_law_865 rfl (by show kc ≤ 600000; omega) (by show ks ≤ 7302250; omega) e33
      refine X.sw e22 (fun c20 e23 => ?_) (fun c20 e23 => ?_)
      · clear e22
        rw [c20]
        refine Ok.tableIn (off := 834) (tgt := 866) dL_law_32 (by decide) (by decide) (by decide +kernel) (by decide) ?_
        refine Ok.aload_n dL_law_866 rfl ?_
        refine Ok.aload_n dL_law_867 rfl ?_
        refine Ok.iload_n dL_law_868 rfl ?_
        refine Ok.iconstV (v := (nI 1)) dL_law_869 (by decide +kernel) ?_
        refine Ok.iadd dL_law_870 ?_
        refine X.sld dL_law_871 e23 (fun v194 e24 => ?_)
        clear e23
        refine Ok.aload_n dL_law_872 rfl ?_
        refine Ok.iload_n dL_law_873 rfl ?_
        refine Ok.iconstV (v := (nI 2)) dL_law_874 (by decide +kernel) ?_
        refine Ok.iadd dL_law_875 ?_
        refine X.sld dL_law_876 e24 (fun v195 e25 => ?_)
        clear e24
        refine X.rck e25 (fun c fs hb hc e26 => ?_)
        clear e25
        obtain rfl := List.mem_singleton.mp hc
        refine X.callV (My := mX11_round) (n := 2) (As := [.int v194, .int v195]) (T := (fun v => (some (.long v)))) (stk' := (fun v => [.long v])) (rest := []) (kc' := kc) (ks' := ks) dL_law_877 e26 (fun v h n e => k_X11_round (d := d + 69) e) hb rfl wd929 wd76 wd927 wd928 wd926 (by decide +kernel) rfl (by decide) rfl rfl (Nat.le_of_ble_eq_true rfl) (by show kc ≤ 600000; omega) (by show ks ≤ 7302250; omega) rfl rfl (fun _ => rfl) (fun r196 h197 n198 e27 => ?_)
        clear e26
        refine Ok.aload_n dL_law_880 rfl ?_
        refine Ok.aload_n dL_law_881 rfl ?_
        refine Ok.iload_n dL_law_882 rfl ?_
        refine Ok.iconstV (v := (nI 1)) dL_law_883 (by decide +kernel) ?_
        refine Ok.iadd dL_law_884 ?_
        refine X.sld dL_law_885 e27 (fun v199 e28 => ?_)
        clear e27
        refine Ok.aload_n dL_law_886 rfl ?_
        refine Ok.iload_n dL_law_887 rfl ?_
        refine Ok.iconstV (v := (nI 2)) dL_law_888 (by decide +kernel) ?_
        refine Ok.iadd dL_law_889 ?_
        refine X.sld dL_law_890 e28 (fun v200 e29 => ?_)
        clear e28
        refine X.rck e29 (fun c fs hb hc e30 => ?_)
        clear e29
        obtain rfl := List.mem_singleton.mp hc
        refine X.callV (My := mX12_round) (n := 2) (As := [.int v199, .int v200]) (T := (fun v => (some (.long v)))) (stk' := (fun v => [.long v, .long r196])) (rest := [.long r196]) (kc' := kc) (ks' := ks) dL_law_891 e30 (fun v h n e => k_X12_round (d := d + 1) e) hb rfl wd1462 wd80 wd1460 wd1461 wd1459 (by decide +kernel) rfl (by decide) rfl rfl (Nat.le_of_ble_eq_true rfl) (by show kc ≤ 600000; omega) (by show ks ≤ 7302250; omega) rfl rfl (fun _ => rfl) (fun r201 h202 n203 e31 => ?_)
        clear e30
        refine Ok.lcmp dL_law_894 ?_
        refine X.if_eq (tgt := 1114) dL_law_895 (by decide) e31 (fun e32 => ?_) (fun e32 => ?_)
        · clear e31
          exact Ok.weakL (k_L_law_1114 (d := d) K18 (by omega) (by omega) e32) ⟨rfl, ⟨rfl, ⟨rfl, ⟨rfl, trivial⟩⟩⟩⟩
        · clear e31
          refine Ok.iconstV (v := (nI 0)) dL_law_898 (by decide +kernel) ?_
          exact X.zret dL_law_899 rfl (by show kc ≤ 600000; omega) (by show ks ≤ 7302250; omega) e32
      refine X.sw e23 (fun c21 e24 => ?_) (fun c21 e24 => ?_)
      · clear e23
        rw [c21]
        refine Ok.tableIn (off := 868) (tgt := 900) dL_law_32 (by decide) (by decide) (by decide +kernel) (by decide) ?_
        refine Ok.aload_n dL_law_900 rfl ?_
        refine Ok.aload_n dL_law_901 rfl ?_
        refine Ok.iload_n dL_law_902 rfl ?_
        refine Ok.iconstV (v := (nI 1)) dL_law_903 (by decide +kernel) ?_
        refine Ok.iadd dL_law_904 ?_
        refine X.sld dL_law_905 e24 (fun v204 e25 => ?_)
        clear e24
        refine Ok.aload_n dL_law_906 rfl ?_
        refine Ok.iload_n dL_law_907 rfl ?_
        refine Ok.iconstV (v := (nI 2)) dL_law_908 (by decide +kernel) ?_
        refine Ok.iadd dL_law_909 ?_
        refine X.sld dL_law_910 e25 (fun v205 e26 => ?_)
        clear e25
        refine X.rck e26 (fun c fs hb hc e27 => ?_)
        clear e26
        obtain rfl := List.mem_singleton.mp hc
        refine X.callV (My := mX11_tour) (n := 2) (As := [.int v204, .int v205]) (T := (fun v => (some (.int v)))) (stk' := (fun v => [.int v])) (rest := []) (kc' := kc) (ks' := ks) dL_law_911 e27 (fun v h n e => k_X11_tour (d := d + 134) e) hb rfl wd943 wd76 wd941 wd942 wd940 (by decide +kernel) rfl (by decide) rfl rfl (Nat.le_of_ble_eq_true rfl) (by show kc ≤ 600000; omega) (by show ks ≤ 7302250; omega) rfl rfl (fun _ => rfl) (fun r206 h207 n208 e28 => ?_)
        clear e27
        refine Ok.aload_n dL_law_914 rfl ?_
        refine Ok.aload_n dL_law_915 rfl ?_
        refine Ok.iload_n dL_law_916 rfl ?_
        refine Ok.iconstV (v := (nI 1)) dL_law_917 (by decide +kernel) ?_
        refine Ok.iadd dL_law_918 ?_
        refine X.sld dL_law_919 e28 (fun v209 e29 => ?_)
        clear e28
        refine Ok.aload_n dL_law_920 rfl ?_
        refine Ok.iload_n dL_law_921 rfl ?_
        refine Ok.iconstV (v := (nI 2)) dL_law_922 (by decide +kernel) ?_
        refine Ok.iadd dL_law_923 ?_
        refine X.sld dL_law_924 e29 (fun v210 e30 => ?_)
        clear e29
        refine X.rck e30 (fun c fs hb hc e31 => ?_)
        clear e30
        obtain rfl := List.mem_singleton.mp hc
        refine X.callV (My := mX12_tour) (n := 2) (As := [.int v209, .int v210]) (T := (fun v => (some (.int v)))) (stk' := (fun v => [.int v, .int r206])) (rest := [.int r206]) (kc' := kc) (ks' := ks) dL_law_925 e31 (fun v h n e => k_X12_tour (d := d + 69) e) hb rfl wd1466 wd80 wd1464 wd1465 wd1463 (by decide +kernel) rfl (by decide) rfl rfl (Nat.le_of_ble_eq_true rfl) (by show kc ≤ 600000; omega) (by show ks ≤ 7302250; omega) rfl rfl (fun _ => rfl) (fun r211 h212 n213 e32 => ?_)
        clear e31
        refine X.icmp_eq (tgt := 1114) dL_law_928 (by decide) e32 (fun e33 => ?_) (fun e33 => ?_)
        · clear e32
          exact Ok.weakL (k_L_law_1114 (d := d) K18 (by omega) (by omega) e33) ⟨rfl, ⟨rfl, ⟨rfl, ⟨rfl, trivial⟩⟩⟩⟩
        · clear e32
          refine Ok.iconstV (v := (nI 0)) dL_law_931 (by decide +kernel) ?_
          exact X.zret dL_law_932 rfl (by show kc ≤ 600000; omega) (by show ks ≤ 7302250; omega) e33
      refine X.sw e24 (fun c22 e25 => ?_) (fun c22 e25 => ?_)
      · clear e24
        rw [c22]
        refine Ok.tableIn (off := 901) (tgt := 933) dL_law_32 (by decide) (by decide) (by decide +kernel) (by decide) ?_
        refine Ok.aload_n dL_law_933 rfl ?_
        refine Ok.aload_n dL_law_934 rfl ?_
        refine Ok.iload_n dL_law_935 rfl ?_
        refine Ok.iconstV (v := (nI 1)) dL_law_936 (by decide +kernel) ?_
        refine Ok.iadd dL_law_937 ?_
        refine X.sld dL_law_938 e25 (fun v214 e26 => ?_)
        clear e25
        refine Ok.aload_n dL_law_939 rfl ?_
        refine Ok.iload_n dL_law_940 rfl ?_
        refine Ok.iconstV (v := (nI 2)) dL_law_941 (by decide +kernel) ?_
        refine Ok.iadd dL_law_942 ?_
        refine X.sld dL_law_943 e26 (fun v215 e27 => ?_)
        clear e26
        refine X.rck e27 (fun c fs hb hc e28 => ?_)
        clear e27
        obtain rfl := List.mem_singleton.mp hc
        refine X.callV (My := mX11_edge) (n := 2) (As := [.int v214, .int v215]) (T := (fun v => (some (.int v)))) (stk' := (fun v => [.int v])) (rest := []) (kc' := kc) (ks' := ks) dL_law_944 e28 (fun v h n e => k_X11_edge (d := d + 134) e) hb rfl wd959 wd76 wd957 wd958 wd956 (by decide +kernel) rfl (by decide) rfl rfl (Nat.le_of_ble_eq_true rfl) (by show kc ≤ 600000; omega) (by show ks ≤ 7302250; omega) rfl rfl (fun _ => rfl) (fun r216 h217 n218 e29 => ?_)
        clear e28
        refine Ok.aload_n dL_law_947 rfl ?_
        refine Ok.aload_n dL_law_948 rfl ?_
        refine Ok.iload_n dL_law_949 rfl ?_
        refine Ok.iconstV (v := (nI 1)) dL_law_950 (by decide +kernel) ?_
        refine Ok.iadd dL_law_951 ?_
        refine X.sld dL_law_952 e29 (fun v219 e30 => ?_)
        clear e29
        refine Ok.aload_n dL_law_953 rfl ?_
        refine Ok.iload_n dL_law_954 rfl ?_
        refine Ok.iconstV (v := (nI 2)) dL_law_955 (by decide +kernel) ?_
        refine Ok.iadd dL_law_956 ?_
        refine X.sld dL_law_957 e30 (fun v220 e31 => ?_)
        clear e30
        refine X.rck e31 (fun c fs hb hc e32 => ?_)
        clear e31
        obtain rfl := List.mem_singleton.mp hc
        refine X.callV (My := mX12_edge) (n := 2) (As := [.int v219, .int v220]) (T := (fun v => (some (.int v)))) (stk' := (fun v => [.int v, .int r216])) (rest := [.int r216]) (kc' := kc) (ks' := ks) dL_law_958 e32 (fun v h n e => k_X12_edge (d := d + 69) e) hb rfl wd1474 wd80 wd1472 wd1473 wd1471 (by decide +kernel) rfl (by decide) rfl rfl (Nat.le_of_ble_eq_true rfl) (by show kc ≤ 600000; omega) (by show ks ≤ 7302250; omega) rfl rfl (fun _ => rfl) (fun r221 h222 n223 e33 => ?_)
        clear e32
        refine X.icmp_eq (tgt := 1114) dL_law_961 (by decide) e33 (fun e34 => ?_) (fun e34 => ?_)
        · clear e33
          exact Ok.weakL (k_L_law_1114 (d := d) K18 (by omega) (by omega) e34) ⟨rfl, ⟨rfl, ⟨rfl, ⟨rfl, trivial⟩⟩⟩⟩
        · clear e33
          refine Ok.iconstV (v := (nI 0)) dL_law_964 (by decide +kernel) ?_
          exact X.zret dL_law_965 rfl (by show kc ≤ 600000; omega) (by show ks ≤ 7302250; omega) e34
      refine X.sw e25 (fun c23 e26 => ?_) (fun c23 e26 => ?_)
      · clear e25
        rw [c23]
        refine Ok.tableIn (off := 934) (tgt := 966) dL_law_32 (by decide) (by decide) (by decide +kernel) (by decide) ?_
        refine Ok.aload_n dL_law_966 rfl ?_
        refine Ok.aload_n dL_law_967 rfl ?_
        refine Ok.iload_n dL_law_968 rfl ?_
        refine Ok.iconstV (v := (nI 1)) dL_law_969 (by decide +kernel) ?_
        refine Ok.iadd dL_law_970 ?_
        refine X.sld dL_law_971 e26 (fun v224 e27 => ?_)
        clear e26
        refine Ok.aload_n dL_law_972 rfl ?_
        refine Ok.iload_n dL_law_973 rfl ?_
        refine Ok.iconstV (v := (nI 2)) dL_law_974 (by decide +kernel) ?_
        refine Ok.iadd dL_law_975 ?_
        refine X.sld dL_law_976 e27 (fun v225 e28 => ?_)
        clear e27
        refine Ok.aload_n dL_law_977 rfl ?_
        refine Ok.iload_n dL_law_978 rfl ?_
        refine Ok.iconstV (v := (nI 3)) dL_law_979 (by decide +kernel) ?_
        refine Ok.iadd dL_law_980 ?_
        refine X.sld dL_law_981 e28 (fun v226 e29 => ?_)
        clear e28
        refine X.rck e29 (fun c fs hb hc e30 => ?_)
        clear e29
        obtain rfl := List.mem_singleton.mp hc
        refine X.callV (My := mX11_act) (n := 3) (As := [.int v224, .int v225, .int v226]) (T := (fun v => (some (.int v)))) (stk' := (fun v => [.int v])) (rest := []) (kc' := kc) (ks' := ks) dL_law_982 e30 (fun v h n e => k_X11_act (d := d + 133) e) hb rfl wd972 wd76 wd970 wd971 wd969 (by decide +kernel) rfl (by decide) rfl rfl (Nat.le_of_ble_eq_true rfl) (by show kc ≤ 600000; omega) (by show ks ≤ 7302250; omega) rfl rfl (fun _ => rfl) (fun r227 h228 n229 e31 => ?_)
        clear e30
        refine Ok.aload_n dL_law_985 rfl ?_
        refine Ok.aload_n dL_law_986 rfl ?_
        refine Ok.iload_n dL_law_987 rfl ?_
        refine Ok.iconstV (v := (nI 1)) dL_law_988 (by decide +kernel) ?_
        refine Ok.iadd dL_law_989 ?_
        refine X.sld dL_law_990 e31 (fun v230 e32 => ?_)
        clear e31
        refine Ok.aload_n dL_law_991 rfl ?_
        refine Ok.iload_n dL_law_992 rfl ?_
        refine Ok.iconstV (v := (nI 2)) dL_law_993 (by decide +kernel) ?_
        refine Ok.iadd dL_law_994 ?_
        refine X.sld dL_law_995 e32 (fun v231 e33 => ?_)
        clear e32
        refine Ok.aload_n dL_law_996 rfl ?_
        refine Ok.iload_n dL_law_997 rfl ?_
        refine Ok.iconstV (v := (nI 3)) dL_law_998 (by decide +kernel) ?_
        refine Ok.iadd dL_law_999 ?_
        refine X.sld dL_law_1000 e33 (fun v232 e34 => ?_)
        clear e33
        refine X.rck e34 (fun c fs hb hc e35 => ?_)
        clear e34
        obtain rfl := List.mem_singleton.mp hc
        refine X.callV (My := mX12_act) (n := 3) (As := [.int v230, .int v231, .int v232]) (T := (fun v => (some (.int v)))) (stk' := (fun v => [.int v, .int r227])) (rest := [.int r227]) (kc' := kc) (ks' := ks) dL_law_1001 e35 (fun v h n e => k_X12_act (d := d + 133) e) hb rfl wd1482 wd80 wd1480 wd1481 wd1479 (by decide +kernel) rfl (by decide) rfl rfl (Nat.le_of_ble_eq_true rfl) (by show kc ≤ 600000; omega) (by show ks ≤ 7302250; omega) rfl rfl (fun _ => rfl) (fun r233 h234 n235 e36 => ?_)
        clear e35
        refine X.icmp_eq (tgt := 1114) dL_law_1004 (by decide) e36 (fun e37 => ?_) (fun e37 => ?_)
        · clear e36
          exact Ok.weakL (k_L_law_1114 (d := d) K18 (by omega) (by omega) e37) ⟨rfl, ⟨rfl, ⟨rfl, ⟨rfl, trivial⟩⟩⟩⟩
        · clear e36
          refine Ok.iconstV (v := (nI 0)) dL_law_1007 (by decide +kernel) ?_
          exact X.zret dL_law_1008 rfl (by show kc ≤ 600000; omega) (by show ks ≤ 7302250; omega) e37
      refine X.sw e26 (fun c24 e27 => ?_) (fun c24 e27 => ?_)
      · clear e26
        rw [c24]
        refine Ok.tableIn (off := 977) (tgt := 1009) dL_law_32 (by decide) (by decide) (by decide +kernel) (by decide) ?_
        refine Ok.aload_n dL_law_1009 rfl ?_
        refine Ok.aload_n dL_law_1010 rfl ?_
        refine Ok.iload_n dL_law_1011 rfl ?_
        refine Ok.iconstV (v := (nI 1)) dL_law_1012 (by decide +kernel) ?_
        refine Ok.iadd dL_law_1013 ?_
        refine X.sld dL_law_1014 e27 (fun v236 e28 => ?_)
        clear e27
        refine X.rck e28 (fun c fs hb hc e29 => ?_)
        clear e28
        obtain rfl := List.mem_singleton.mp hc
        refine X.callV (My := mX11_trace) (n := 1) (As := [.int v236]) (T := (fun v => (some (.int v)))) (stk' := (fun v => [.int v])) (rest := []) (kc' := kc) (ks' := ks) dL_law_1015 e29 (fun v h n e => k_X11_trace (d := d + 139) e) hb rfl wd1052 wd76 wd1050 wd1051 wd1049 (by decide +kernel) rfl (by decide) rfl rfl (Nat.le_of_ble_eq_true rfl) (by show kc ≤ 600000; omega) (by show ks ≤ 7302250; omega) rfl rfl (fun _ => rfl) (fun r237 h238 n239 e30 => ?_)
        clear e29
        refine Ok.aload_n dL_law_1018 rfl ?_
        refine Ok.aload_n dL_law_1019 rfl ?_
        refine Ok.iload_n dL_law_1020 rfl ?_
        refine Ok.iconstV (v := (nI 1)) dL_law_1021 (by decide +kernel) ?_
        refine Ok.iadd dL_law_1022 ?_
        refine X.sld dL_law_1023 e30 (fun v240 e31 => ?_)
        clear e30
        refine X.rck e31 (fun c fs hb hc e32 => ?_)
        clear e31
        obtain rfl := List.mem_singleton.mp hc
        refine X.callV (My := mX12_trace) (n := 1) (As := [.int v240]) (T := (fun v => (some (.int v)))) (stk' := (fun v => [.int v, .int r237])) (rest := [.int r237]) (kc' := kc) (ks' := ks) dL_law_1024 e32 (fun v h n e => k_X12_trace (d := d + 139) e) hb rfl wd1517 wd80 wd1515 wd1516 wd1514 (by decide +kernel) rfl (by decide) rfl rfl (Nat.le_of_ble_eq_true rfl) (by show kc ≤ 600000; omega) (by show ks ≤ 7302250; omega) rfl rfl (fun _ => rfl) (fun r241 h242 n243 e33 => ?_)
        clear e32
        refine X.icmp_eq (tgt := 1114) dL_law_1027 (by decide) e33 (fun e34 => ?_) (fun e34 => ?_)
        · clear e33
          exact Ok.weakL (k_L_law_1114 (d := d) K18 (by omega) (by omega) e34) ⟨rfl, ⟨rfl, ⟨rfl, ⟨rfl, trivial⟩⟩⟩⟩
        · clear e33
          refine Ok.iconstV (v := (nI 0)) dL_law_1030 (by decide +kernel) ?_
          exact X.zret dL_law_1031 rfl (by show kc ≤ 600000; omega) (by show ks ≤ 7302250; omega) e34
      refine X.sw e27 (fun c25 e28 => ?_) (fun c25 e28 => ?_)
      · clear e27
        rw [c25]
        refine Ok.tableIn (off := 1000) (tgt := 1032) dL_law_32 (by decide) (by decide) (by decide +kernel) (by decide) ?_
        refine Ok.aload_n dL_law_1032 rfl ?_
        refine Ok.aload_n dL_law_1033 rfl ?_
        refine Ok.iload_n dL_law_1034 rfl ?_
        refine Ok.iconstV (v := (nI 1)) dL_law_1035 (by decide +kernel) ?_
        refine Ok.iadd dL_law_1036 ?_
        refine X.sld dL_law_1037 e28 (fun v244 e29 => ?_)
        clear e28
        refine Ok.aload_n dL_law_1038 rfl ?_
        refine Ok.iload_n dL_law_1039 rfl ?_
        refine Ok.iconstV (v := (nI 2)) dL_law_1040 (by decide +kernel) ?_
        refine Ok.iadd dL_law_1041 ?_
        refine X.sld dL_law_1042 e29 (fun v245 e30 => ?_)
        clear e29
        refine X.rck e30 (fun c fs hb hc e31 => ?_)
        clear e30
        obtain rfl := List.mem_singleton.mp hc
        refine X.callV (My := mX11_as) (n := 2) (As := [.int v244, .int v245]) (T := (fun v => (some (.int v)))) (stk' := (fun v => [.int v])) (rest := []) (kc' := kc) (ks' := ks) dL_law_1043 e31 (fun v h n e => k_X11_as (d := d + 139) e) hb rfl wd1057 wd76 wd1055 wd1056 wd1054 (by decide +kernel) rfl (by decide) rfl rfl (Nat.le_of_ble_eq_true rfl) (by show kc ≤ 600000; omega) (by show ks ≤ 7302250; omega) rfl rfl (fun _ => rfl) (fun r246 h247 n248 e32 => ?_)
        clear e31
        refine Ok.aload_n dL_law_1046 rfl ?_
        refine Ok.aload_n dL_law_1047 rfl ?_
        refine Ok.iload_n dL_law_1048 rfl ?_
        refine Ok.iconstV (v := (nI 1)) dL_law_1049 (by decide +kernel) ?_
        refine Ok.iadd dL_law_1050 ?_
        refine X.sld dL_law_1051 e32 (fun v249 e33 => ?_)
        clear e32
        refine Ok.aload_n dL_law_1052 rfl ?_
        refine Ok.iload_n dL_law_1053 rfl ?_
        refine Ok.iconstV (v := (nI 2)) dL_law_1054 (by decide +kernel) ?_
        refine Ok.iadd dL_law_1055 ?_
        refine X.sld dL_law_1056 e33 (fun v250 e34 => ?_)
        clear e33
        refine X.rck e34 (fun c fs hb hc e35 => ?_)
        clear e34
        obtain rfl := List.mem_singleton.mp hc
        refine X.callV (My := mX12_as) (n := 2) (As := [.int v249, .int v250]) (T := (fun v => (some (.int v)))) (stk' := (fun v => [.int v, .int r246])) (rest := [.int r246]) (kc' := kc) (ks' := ks) dL_law_1057 e35 (fun v h n e => k_X12_as (d := d + 138) e) hb rfl wd1521 wd80 wd1519 wd1520 wd1518 (by decide +kernel) rfl (by decide) rfl rfl (Nat.le_of_ble_eq_true rfl) (by show kc ≤ 600000; omega) (by show ks ≤ 7302250; omega) rfl rfl (fun _ => rfl) (fun r251 h252 n253 e36 => ?_)
        clear e35
        refine X.icmp_eq (tgt := 1114) dL_law_1060 (by decide) e36 (fun e37 => ?_) (fun e37 => ?_)
        · clear e36
          exact Ok.weakL (k_L_law_1114 (d := d) K18 (by omega) (by omega) e37) ⟨rfl, ⟨rfl, ⟨rfl, ⟨rfl, trivial⟩⟩⟩⟩
        · clear e36
          refine Ok.iconstV (v := (nI 0)) dL_law_1063 (by decide +kernel) ?_
          exact X.zret dL_law_1064 rfl (by show kc ≤ 600000; omega) (by show ks ≤ 7302250; omega) e37
      refine X.sw e28 (fun c26 e29 => ?_) (fun c26 e29 => ?_)
      · clear e28
        rw [c26]
        refine Ok.tableIn (off := 1033) (tgt := 1065) dL_law_32 (by decide) (by decide) (by decide +kernel) (by decide) ?_
        refine Ok.aload_n dL_law_1065 rfl ?_
        refine X.rck e29 (fun c fs hb hc e30 => ?_)
        clear e29
        obtain rfl := List.mem_singleton.mp hc
        refine X.callV (My := mX11_image) (n := 0) (As := []) (T := (fun v => (some (.int v)))) (stk' := (fun v => [.int v])) (rest := []) (kc' := kc) (ks' := ks) dL_law_1066 e30 (fun v h n e => k_X11_image (d := d + 138) e) hb rfl wd1064 wd76 wd1062 wd1063 wd1061 (by decide +kernel) rfl (by decide) rfl rfl (Nat.le_of_ble_eq_true rfl) (by show kc ≤ 600000; omega) (by show ks ≤ 7302250; omega) rfl rfl (fun _ => rfl) (fun r254 h255 n256 e31 => ?_)
        clear e30
        refine Ok.aload_n dL_law_1069 rfl ?_
        refine X.rck e31 (fun c fs hb hc e32 => ?_)
        clear e31
        obtain rfl := List.mem_singleton.mp hc
        refine X.callV (My := mX12_image) (n := 0) (As := []) (T := (fun v => (some (.int v)))) (stk' := (fun v => [.int v, .int r254])) (rest := [.int r254]) (kc' := kc) (ks' := ks) dL_law_1070 e32 (fun v h n e => k_X12_image (d := d + 140) e) hb rfl wd1525 wd80 wd1523 wd1524 wd1522 (by decide +kernel) rfl (by decide) rfl rfl (Nat.le_of_ble_eq_true rfl) (by show kc ≤ 600000; omega) (by show ks ≤ 7302250; omega) rfl rfl (fun _ => rfl) (fun r257 h258 n259 e33 => ?_)
        clear e32
        refine X.icmp_eq (tgt := 1114) dL_law_1073 (by decide) e33 (fun e34 => ?_) (fun e34 => ?_)
        · clear e33
          exact Ok.weakL (k_L_law_1114 (d := d) K18 (by omega) (by omega) e34) ⟨rfl, ⟨rfl, ⟨rfl, ⟨rfl, trivial⟩⟩⟩⟩
        · clear e33
          refine Ok.iconstV (v := (nI 0)) dL_law_1076 (by decide +kernel) ?_
          exact X.zret dL_law_1077 rfl (by show kc ≤ 600000; omega) (by show ks ≤ 7302250; omega) e34
      refine X.sw e29 (fun c27 e30 => ?_) (fun c27 e30 => ?_)
      · clear e29
        rw [c27]
        refine Ok.tableIn (off := 1046) (tgt := 1078) dL_law_32 (by decide) (by decide) (by decide +kernel) (by decide) ?_
        refine Ok.aload_n dL_law_1078 rfl ?_
        refine X.rck e30 (fun c fs hb hc e31 => ?_)
        clear e30
        obtain rfl := List.mem_singleton.mp hc
        refine X.callV (My := mX11_undo) (n := 0) (As := []) (T := (fun v => (some (.int v)))) (stk' := (fun v => [.int v])) (rest := []) (kc' := kc) (ks' := ks) dL_law_1079 e31 (fun v h n e => k_X11_undo (d := d + 138) e) hb rfl wd1077 wd76 wd1075 wd1076 wd1074 (by decide +kernel) rfl (by decide) rfl rfl (Nat.le_of_ble_eq_true rfl) (by show kc ≤ 600000; omega) (by show ks ≤ 7302250; omega) rfl rfl (fun _ => rfl) (fun r260 h261 n262 e32 => ?_)
        clear e31
        refine Ok.aload_n dL_law_1082 rfl ?_
        refine X.rck e32 (fun c fs hb hc e33 => ?_)
        clear e32
        obtain rfl := List.mem_singleton.mp hc
        refine X.callV (My := mX12_undo) (n := 0) (As := []) (T := (fun v => (some (.int v)))) (stk' := (fun v => [.int v, .int r260])) (rest := [.int r260]) (kc' := kc) (ks' := ks) dL_law_1083 e33 (fun v h n e => k_X12_undo (d := d + 140) e) hb rfl wd1529 wd80 wd1527 wd1528 wd1526 (by decide +kernel) rfl (by decide) rfl rfl (Nat.le_of_ble_eq_true rfl) (by show kc ≤ 600000; omega) (by show ks ≤ 7302250; omega) rfl rfl (fun _ => rfl) (fun r263 h264 n265 e34 => ?_)
        clear e33
        refine X.icmp_eq (tgt := 1114) dL_law_1086 (by decide) e34 (fun e35 => ?_) (fun e35 => ?_)
        · clear e34
          exact Ok.weakL (k_L_law_1114 (d := d) K18 (by omega) (by omega) e35) ⟨rfl, ⟨rfl, ⟨rfl, ⟨rfl, trivial⟩⟩⟩⟩
        · clear e34
          refine Ok.iconstV (v := (nI 0)) dL_law_1089 (by decide +kernel) ?_
          exact X.zret dL_law_1090 rfl (by show kc ≤ 600000; omega) (by show ks ≤ 7302250; omega) e35
      refine X.sw e30 (fun c28 e31 => ?_) (fun c28 e31 => ?_)
      · clear e30
        rw [c28]
        refine Ok.tableIn (off := 1059) (tgt := 1091) dL_law_32 (by decide) (by decide) (by decide +kernel) (by decide) ?_
        refine Ok.aload_n dL_law_1091 rfl ?_
        refine Ok.aload_n dL_law_1092 rfl ?_
        refine Ok.iload_n dL_law_1093 rfl ?_
        refine Ok.iconstV (v := (nI 1)) dL_law_1094 (by decide +kernel) ?_
        refine Ok.iadd dL_law_1095 ?_
        refine X.sld dL_law_1096 e31 (fun v266 e32 => ?_)
        clear e31
        refine X.rck e32 (fun c fs hb hc e33 => ?_)
        clear e32
        obtain rfl := List.mem_singleton.mp hc
        refine X.callV (My := mX11_count) (n := 1) (As := [.int v266]) (T := (fun v => (some (.int v)))) (stk' := (fun v => [.int v])) (rest := []) (kc' := kc) (ks' := ks) dL_law_1097 e33 (fun v h n e => k_X11_count (d := d + 140) e) hb rfl wd1081 wd76 wd1079 wd1080 wd1078 (by decide +kernel) rfl (by decide) rfl rfl (Nat.le_of_ble_eq_true rfl) (by show kc ≤ 600000; omega) (by show ks ≤ 7302250; omega) rfl rfl (fun _ => rfl) (fun r267 h268 n269 e34 => ?_)
        clear e33
        refine Ok.aload_n dL_law_1100 rfl ?_
        refine Ok.aload_n dL_law_1101 rfl ?_
        refine Ok.iload_n dL_law_1102 rfl ?_
        refine Ok.iconstV (v := (nI 1)) dL_law_1103 (by decide +kernel) ?_
        refine Ok.iadd dL_law_1104 ?_
        refine X.sld dL_law_1105 e34 (fun v270 e35 => ?_)
        clear e34
        refine X.rck e35 (fun c fs hb hc e36 => ?_)
        clear e35
        obtain rfl := List.mem_singleton.mp hc
        refine X.callV (My := mX12_count) (n := 1) (As := [.int v270]) (T := (fun v => (some (.int v)))) (stk' := (fun v => [.int v, .int r267])) (rest := [.int r267]) (kc' := kc) (ks' := ks) dL_law_1106 e36 (fun v h n e => k_X12_count (d := d + 140) e) hb rfl wd1533 wd80 wd1531 wd1532 wd1530 (by decide +kernel) rfl (by decide) rfl rfl (Nat.le_of_ble_eq_true rfl) (by show kc ≤ 600000; omega) (by show ks ≤ 7302250; omega) rfl rfl (fun _ => rfl) (fun r271 h272 n273 e37 => ?_)
        clear e36
        refine X.icmp_eq (tgt := 1114) dL_law_1109 (by decide) e37 (fun e38 => ?_) (fun e38 => ?_)
        · clear e37
          exact Ok.weakL (k_L_law_1114 (d := d) K18 (by omega) (by omega) e38) ⟨rfl, ⟨rfl, ⟨rfl, ⟨rfl, trivial⟩⟩⟩⟩
        · clear e37
          refine Ok.iconstV (v := (nI 0)) dL_law_1112 (by decide +kernel) ?_
          exact X.zret dL_law_1113 rfl (by show kc ≤ 600000; omega) (by show ks ≤ 7302250; omega) e38
      refine Ok.tableOut (tgt := 1114) dL_law_32 (sw_out 0 29 (fun i hi => match i, hi with | 0, _ => c0 | 1, _ => c1 | 2, _ => c2 | 3, _ => c3 | 4, _ => c4 | 5, _ => c5 | 6, _ => c6 | 7, _ => c7 | 8, _ => c8 | 9, _ => c9 | 10, _ => c10 | 11, _ => c11 | 12, _ => c12 | 13, _ => c13 | 14, _ => c14 | 15, _ => c15 | 16, _ => c16 | 17, _ => c17 | 18, _ => c18 | 19, _ => c19 | 20, _ => c20 | 21, _ => c21 | 22, _ => c22 | 23, _ => c23 | 24, _ => c24 | 25, _ => c25 | 26, _ => c26 | 27, _ => c27 | 28, _ => c28 | _ + 29, q => absurd q (by omega))) (by decide) ?_
      exact Ok.weakL (k_L_law_1114 (d := d) K18 (by omega) (by omega) e31) ⟨rfl, ⟨rfl, ⟨rfl, ⟨rfl, trivial⟩⟩⟩⟩
noncomputable def F_L_law (G : Gx) (h : Hp) (nx : Nat) : Rz Int32 :=
nwO G h nx 11 [.null, .null, .int 0, .null, .null, .null, .null] (fun p1 h2 n3 =>
cl (F_X11_init G h2 n3 p1) (fun _ h5 n6 =>
nwO G h5 n6 12 [.int 0, .null, .null, .int 0, .int 0, .int 0, .int 0, .int 0, .int 0, .null, .int 0, .int 0, .null, .null, .null, .null, .null, .null, .int 0, .int 0, .int 0, .null, .null, .null, .null, .int 0, .int 0, .null, .null, .null, .int 0, .int 0, .int 0, .int 0] (fun p7 h8 n9 =>
cl (F_X12_init G h8 n9 p7) (fun _ h11 n12 =>
(F_L_law_18 G fuelL h11 n12 p1 p7 (nI 0))))))
set_option maxRecDepth 100000 in
set_option maxHeartbeats 4000000 in
theorem k_L_law {G : Gx} {d : Nat} {h : Hp} {nx : Nat} {v' : Int32} {h' : Hp} {n' : Nat} (e : F_L_law G h nx = some (v', h', n')) : Ok G mL_law (d + 141) (Same (some (.int v')) h' n') 0 [some (.ref (g_b G)), none, none, none] [] h nx 0 0 := by
  unfold F_L_law at e
  refine X.rnwO (fs := [.null, .null, .int 0, .null, .null, .null, .null]) dL_law_0 rfl inX11 tyX11 tyX11_ok wd98 wd99 wd76 (fun j hj => match j, hj with | 0, _ => rfl | 1, _ => rfl | 2, _ => rfl | 3, _ => rfl | 4, _ => rfl | 5, _ => rfl | 6, _ => rfl | _ + 7, q => absurd q (by omega)) (Nat.le_of_ble_eq_true rfl) (Nat.le_of_ble_eq_true rfl) e (fun p1 h2 n3 e1 => ?_)
  clear e
  refine Ok.mono (kc' := 1) (ks' := 7) ?_ (by decide) (by decide)
  refine Ok.dup dL_law_3 rfl ?_
  refine X.callI (My := mX11_init) (n := 0) (As := []) (T := (fun v => none)) (stk' := (fun _ => [.ref p1])) (rest := [.ref p1]) (kc' := 108) (ks' := 2058) dL_law_4 e1 (fun v h n e => k_X11_init (d := d + 139) e) rfl wd102 wd76 wd101 rfl wd100 (by decide +kernel) rfl (by decide) rfl rfl (Nat.le_of_ble_eq_true rfl) (Nat.le_of_ble_eq_true rfl) (Nat.le_of_ble_eq_true rfl) rfl rfl (fun _ => rfl) (fun _ h5 n6 e2 => ?_)
  clear e1
  refine XL.astore_n dL_law_7 (by decide) (L := [some (.ref (g_b G)), some (.ref p1), none, none]) rfl ?_
  refine X.rnwO (fs := [.int 0, .null, .null, .int 0, .int 0, .int 0, .int 0, .int 0, .int 0, .null, .int 0, .int 0, .null, .null, .null, .null, .null, .null, .int 0, .int 0, .int 0, .null, .null, .null, .null, .int 0, .int 0, .null, .null, .null, .int 0, .int 0, .int 0, .int 0]) dL_law_8 rfl inX12 tyX12 tyX12_ok wd1082 wd1083 wd80 (fun j hj => match j, hj with | 0, _ => rfl | 1, _ => rfl | 2, _ => rfl | 3, _ => rfl | 4, _ => rfl | 5, _ => rfl | 6, _ => rfl | 7, _ => rfl | 8, _ => rfl | 9, _ => rfl | 10, _ => rfl | 11, _ => rfl | 12, _ => rfl | 13, _ => rfl | 14, _ => rfl | 15, _ => rfl | 16, _ => rfl | 17, _ => rfl | 18, _ => rfl | 19, _ => rfl | 20, _ => rfl | 21, _ => rfl | 22, _ => rfl | 23, _ => rfl | 24, _ => rfl | 25, _ => rfl | 26, _ => rfl | 27, _ => rfl | 28, _ => rfl | 29, _ => rfl | 30, _ => rfl | 31, _ => rfl | 32, _ => rfl | 33, _ => rfl | _ + 34, q => absurd q (by omega)) (Nat.le_of_ble_eq_true rfl) (Nat.le_of_ble_eq_true rfl) e2 (fun p7 h8 n9 e3 => ?_)
  clear e2
  refine Ok.mono (kc' := 109) (ks' := 2092) ?_ (by decide) (by decide)
  refine Ok.dup dL_law_11 rfl ?_
  refine X.callI (My := mX12_init) (n := 0) (As := []) (T := (fun v => none)) (stk' := (fun _ => [.ref p7])) (rest := [.ref p7]) (kc' := 125) (ks' := 5961) dL_law_12 e3 (fun v h n e => k_X12_init (d := d + 140) e) rfl wd1086 wd80 wd1085 rfl wd1084 (by decide +kernel) rfl (by decide) rfl rfl (Nat.le_of_ble_eq_true rfl) (Nat.le_of_ble_eq_true rfl) (Nat.le_of_ble_eq_true rfl) rfl rfl (fun _ => rfl) (fun _ h11 n12 e4 => ?_)
  clear e3
  refine XL.astore_n dL_law_15 (by decide) (L := [some (.ref (g_b G)), some (.ref p1), some (.ref p7), none]) rfl ?_
  refine Ok.iconstV (v := (nI 0)) dL_law_16 (by decide +kernel) ?_
  refine XL.istore_n dL_law_17 (by decide) (L := [some (.ref (g_b G)), some (.ref p1), some (.ref p7), some (.int (nI 0))]) rfl ?_
  exact Ok.weakL (k_L_law_18 (d := d) fuelL (by show 125 + 10 * 2048 ≤ 600000; decide) (by show 5961 + 420 * 2048 ≤ 7302250; decide) e4) ⟨rfl, ⟨rfl, ⟨rfl, ⟨rfl, trivial⟩⟩⟩⟩
