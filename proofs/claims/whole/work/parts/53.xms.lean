/-! METHODS THAT THROW AND CATCH: what the abstract machine says, the JVM does. -/
theorem xm_ot_ts {Ts : List Jvm.Cond} (hg : ∀ w ∈ Ts, goodWord w = true) {w : Jvm.Cond} (hw : w ∈ Ts) : vx_ot w = true := by
  unfold vx_ot
  rw [hg w hw, Bool.or_true]
theorem xm_ot_xn {w : Jvm.Cond} (hw : xm_isX w = true) : vx_ot w = true := by
  cases w <;> first | rfl | (cases hw)
set_option maxHeartbeats 8000000 in
theorem xm_sound {l : Launch} {D : va_G} {cl : List vw_C} {cA : Nat → ClassId} {ro : am_H} {sts : List (String × String × String)} {Ts nest xn : List Jvm.Cond} {xnc : List (String × String)} {strs : List (String × Nat × String)} {ft : Nat → Nat → FieldType} {df : Nat → List Value} {G : Nat → am_M} {nM : Nat} {XG : Nat → xm_M} {nX : Nat} (hl : l.stackTraces = false)
    (hg : ∀ w ∈ Ts, goodWord w = true) (hn : ∀ w ∈ nest, am_isN w = true) (hxn : ∀ w ∈ xn, xm_isX w = true) (hcl : am_okC cl Ts ft df) (hroW : ∀ e ∈ ro, am_we 0 e)
    (hM : ∀ m, m < nM → ∃ n, am_okM Ts (G m) n) (hR : ∀ m, m < nM → ∀ pc, am_okR cl sts Ts nest G nM m pc ((G m).2.2.2.2.1 pc))
    (hXM : ∀ m, m < nX → (∃ n, xm_okM Ts (XG m) n) ∧ ((XG m).2.1 = [] → (XG m).2.2 = [])) (hXR : ∀ m, m < nX → ∀ pc, xm_okR cl sts Ts nest xn xnc strs G nM XG nX (XG m) pc ((XG m).1.2.2.2.2.1 pc)) :
    ∀ (d m : Nat) (as : List Value) (h : am_H) (K : xm_K) (ad : Nat → Nat) (sz : Nat), m < nX → xm_Ex G ro ft df XG d m as h K → am_wh h → am_wt h.length as → h.length ≤ 1000 → vx_Met l (XG m).1.1 (xm_wd Ts (XG m)) (xm_rm XG d m) (va_Pc (as.map (am_v ad)) (xm_In D cl cA ro sts nest xn xnc strs ad h sz)) (fun _ => am_Out D cl cA ad h sz (fun v h => K (.inl v) h)) (xm_XC D cl cA ad h sz K) (xm_rm XG d m).cells (xm_rm XG d m).slots (va_A (am_ws cA ad 0 h) sz) := by
  intro d
  induction d with
  | zero => intro m as h K ad sz hm hE; exact hE.elim
  | succ d ih =>
    intro m as h K ad sz hm hE hh hw hlt
    obtain ⟨hsp, hd5, hE⟩ := hE
    obtain ⟨⟨n9, hwd, hy1, hy2, hy3, hy4, hy5⟩, hhd⟩ := hXM m hm
    have key : ∀ (p : Program) (e : Env) (s : State) (mm : MethodId) (args : Array Value) (below : List Frame) (meth : Method) (c : Code) (s₁ : State), BodyLoose p l (XG m).1.1 (headSpec (xm_wd Ts (XG m)) (xm_rm XG (d + 1) m)) (XG m).1.2.1 (XG m).1.2.2.1 (XG m).1.2.2.2.1 e s mm args below meth c s₁ → c.maxLocals = (XG m).1.2.2.1 → (((XG m).2.2 = [] ∧ ∀ x ∈ c.exceptionTable.toList, False) ∨ (¬ (XG m).2.2 = [] ∧ c.exceptionTable.toList = tableOf (XG m).2.2)) → va_Pc (as.map (am_v ad)) (xm_In D cl cA ro sts nest xn xnc strs ad h sz) args s →
        W p l e (xm_rm XG (d + 1) m) s mm args below meth c s.heap [] 0 0 (vx_MQ below (fun _ => am_Out D cl cA ad h sz (fun v h => K (.inl v) h)) (xm_XC D cl cA ad h sz K) args s (xm_rm XG (d + 1) m).cells (xm_rm XG (d + 1) m).slots (va_A (am_ws cA ad 0 h) sz)) (entryFrame mm args (XG m).1.2.2.1) := by
      intro p e s mm args below meth c s₁ B hml htab hv
      obtain ⟨rfl, ⟨hsz, hP, hDD, hK, hro, hst, hne⟩, hZ⟩ := hv
      have hx := B.exec
      have hb := B.bytes
      have hr := B.returns
      have hts0 := atoms_spec (ws := xm_wd Ts (XG m)) B.pre
      have hts : ∀ w ∈ Ts, w.before (as.map (am_v ad)).toArray s = true := fun w hw => hts0 w (List.mem_cons_of_mem _ hw)
      have hown : s.vm.findClass (XG m).1.1.cls = some mm.cls := findClass_of_methodNamed B.named
      have hnm : meth.name = (XG m).1.1.name := (name_of_methodNamed B.named B.method).1
      have hlocks := B.notSynchronized
      subst hsz
      have hD := hDD.self (sz := s.heap.size)
      have hA : ∀ q : Nat, s.heap.size ≤ q → va_A (am_ws cA ad 0 h) s.heap.size q := fun q hq => Or.inr hq
      generalize hAe : va_A (am_ws cA ad 0 h) s.heap.size = A at hD hA hro hst hZ ⊢
      have hro' : ∀ ad', am_ag h.length ad ad' → ∀ k e, am_nth ro k = some e → am_T e (ad' (1000 + k)) A s s.heap := fun ad' hag k e he => by
        rw [hag _ (Or.inr (Nat.le_add_right _ _))]
        exact hro k e he
      have hst' : ∀ ad', am_ag h.length ad ad' → ∀ k q, am_nth sts k = some q → va_Z q.1 q.2.1 q.2.2 (.ref (ad' (1000 + k))) A s s.heap := fun ad' hag k q hq => by
        rw [hag _ (Or.inr (Nat.le_add_right _ _))]
        exact hst k q hq
      have hE2 := hE (xm_PW p l e (xm_rm XG (d + 1) m) s mm (as.map (am_v ad)).toArray below meth c (vx_MQ below (fun _ => am_Out D cl cA ad h s.heap.size (fun v h => K (.inl v) h)) (xm_XC D cl cA ad h s.heap.size K) (as.map (am_v ad)).toArray s (xm_rm XG (d + 1) m).cells (xm_rm XG (d + 1) m).slots A) (XG m).1.2.2.1 D cl cA A ad h.length) ?_ ?_
      · have h9 := hE2 ad s.heap [] ((lg_sl (as.map (am_v ad)) ++ List.replicate ((XG m).1.2.2.1 - (lg_sl (as.map (am_v ad))).length) Slot.unset).toArray) 0 0 ⟨am_ag_rf, Nat.le_refl _, hlt, hh, hP, hD, va_S.rf, by rw [Nat.zero_add]; exact Nat.le_refl _, by rw [Nat.zero_add]; exact Nat.le_refl _⟩ (fun i v hi => am_sp_w as hw i v (am_padN_nth _ _ _ _ hi)) (fun _ q => by cases q) ?_
        · rw [lg_entry_eq]
          exact h9
        · have hle : (lg_sl (as.map (am_v ad))).length ≤ (XG m).1.2.2.1 := by rw [am_sp_len]; exact Nat.le_of_ble_eq_true hsp
          have hl := lv_entry (as.map (am_v ad)) (n := (XG m).1.2.2.1) hle
          refine ⟨am_padN_len _ _, hl.1, hl.2.1, fun i v hi => ?_⟩
          have h1 := hl.2.2 (0 + i, am_v ad v) (am_sp_args as 0 i v (am_padN_nth _ _ _ _ hi))
          rw [Nat.zero_add] at h1
          exact h1
      · intro pc lv lv' st h' bc' bs' hle hV ad' H locs ls cells slots g1 g5 g6 g10
        exact hV ad' H locs ls cells slots g1 (am_wl_less hle g5) g6 (am_ls_le hle g10)
      · intro pc lv st h' bc' bs' hrow
        refine xm_row_W (d := d) (nM := nM) (nX := nX) (hh := (XG m).2.2) hx hb hml hown hnm hts hg hn hxn hne hcl hK hA hro' hst' hZ (fun m' as' h9 K9 ad9 sz9 z1 z2 z3 z4 z5 => am_sound hg hn hcl hroW hM hR d m' as' h9 K9 ad9 sz9 z1 z2 z3 z4 z5) (fun m' as' h9 K9 ad9 sz9 z1 z2 z3 z4 z5 => ih m' as' h9 K9 ad9 sz9 z1 z2 z3 z4 z5) (Nat.le_refl _) (by show 40 * d + 140 ≤ 40 * (d + 1) + 100; omega) ?_ (fun L xs q => by cases q) ?_ ?_ ?_ (hXR m hm pc) hrow
        · rcases htab with ⟨h1, h2⟩ | ⟨h1, h2⟩
          · refine Or.inr ?_
            rw [h1]
            cases hx9 : c.exceptionTable.toList with
            | nil => rfl
            | cons z r => exact (h2 z (by rw [hx9]; exact List.mem_cons_self)).elim
          · exact Or.inr h2
        · intro pc ins len st h' ad' H locs ls cells slots bc bs hdg hlen hW hls hwt hrt
          obtain ⟨g1, g2, g3, g4, g7, g8, g9, g11, g12⟩ := hW
          exact vx_ret (am_W_rt hx hb hr hlocks hdg hlen hrt (fun v t hKv hwv ht hW => ⟨⟨v, h', ad', rfl, hKv, g1, g2, g3, g4, fun z hz => am_wv_le (hwv z hz) (Nat.zero_le _), by rw [ht]; exact g7, by rw [hAe]; exact g8⟩, by rw [hAe]; exact g9.F ht⟩) g9.2.2 (by omega) (by omega))
        · intro pc r1 h' ad' H locs ls cells slots bc bs hT hKr hW hls
          obtain ⟨g1, g2, g3, g4, g7, g8, g9, g11, g12⟩ := hW
          obtain ⟨ik, is, ic, ix, text, Y, r, rx, hh0, ⟨d0, d3, d4, d6, d9⟩, ⟨x0, x1, x2, x5⟩, hf1, hf2, hf3, hnl, hk, hini, hats, hsr⟩ := hT
          obtain ⟨sa, hsa⟩ := hZ.2.2.2.2 _ hsr
          refine xv_throwS (A := A) (V9 := Y) (r := r) (sa := sa) (text := text) (ic := ic) hx hb hl x0 x1 x2 x5 hown hf1 hf2 hf3 (hts _ hk) (hts _ hini) hsa (fun w hw => (hats w hw).elim (fun q => hts w q) (fun q => xm_nw_use (hxn w q) (hZ.1 w q))) (fun w hw => ?_) hZ.2.2.1 hZ.2.2.2.1 g9 (hls.trans hml.symm) d0 d3 d4 d6 (by show r.length + 1 + 3 < d + 1 + 1; omega) ?_ (by omega) (by omega) d9 (fun x hx9 => ?_) hlocks (fun t hal hsz hq => ?_) g9.2.2 (by omega) (by omega)
          · rcases List.mem_cons.mp hw with q | q
            · rw [q]; exact xm_ot_ts hg hk
            · rcases List.mem_cons.mp q with q | q
              · rw [q]; exact xm_ot_ts hg hini
              · exact (hats w q).elim (fun q => xm_ot_ts hg q) (fun q => xm_ot_xn (hxn w q))
          · show 0 + (13 * (r.length + 1 + 1) + 43) ≤ 40 * (d + 1) + 100
            omega
          · rcases htab with ⟨h1, h2⟩ | ⟨h1, h2⟩
            · exact (h2 x hx9).elim
            · exact absurd hh0 h1
          · refine ⟨⟨r1, h', ad', rfl, hKr, g1, g2, g3, g4, fun k x hk => (g7 k x hk).kept (hq x.1 (g7 k x hk).lt), by rw [hAe]; exact g8⟩, ?_⟩
            rw [hAe]
            exact ⟨Nat.le_trans g9.1 hsz, fun q hq1 hq2 => by rw [hq q (Nat.lt_of_lt_of_le hq1 g9.1)]; exact g9.2.1 q hq1 hq2⟩
        · intro pc e' rest h' ad' H locs ls cells slots bc bs q ce hhd0 hKr hW hce hcv hcl9
          obtain ⟨g1, g2, g3, g4, g7, g8, g9, g11, g12⟩ := hW
          refine vx_out (E := xm_nm e') (ce := ce) (fun x hx9 => ?_) hlocks hce hcv hcl9 (fun t ht hal => ?_) g9.2.2 (by omega) (by omega)
          · rcases htab with ⟨h1, h2⟩ | ⟨h1, h2⟩
            · exact (h2 x hx9).elim
            · exact absurd (hhd hhd0) h1
          · refine ⟨⟨e', h', ad', rfl, hKr, g1, g2, g3, g4, by rw [ht]; exact g7, by rw [hAe]; exact g8⟩, ?_⟩
            rw [hAe]
            exact g9.F ht
    cases hhx : (XG m).2.2 with
    | nil =>
      have hw0 : xm_wd Ts (XG m) = Jvm.Cond.code (XG m).1.1 (XG m).1.2.1 (XG m).1.2.2.1 (XG m).1.2.2.2.1 :: Ts := by
        unfold xm_wd xm_w
        rw [hhx]
      exact vx_ofW hy4 hw0 (fun p e s mm args below meth c s₁ B hml ht hv => key p e s mm args below meth c s₁ B hml (Or.inl ⟨hhx, ht⟩) hv)
    | cons z r =>
      have hw0 : xm_wd Ts (XG m) = Jvm.Cond.codeWith (XG m).1.1 (XG m).1.2.1 (XG m).1.2.2.1 (XG m).1.2.2.2.1 (z :: r) :: Ts := by
        unfold xm_wd xm_w
        rw [hhx]
      refine vx_ofWH hy4 hw0 (fun p e s mm args below meth c s₁ B hml hv => key p e s mm args below meth c s₁ B hml (Or.inr ⟨?_, ?_⟩) hv)
      · rw [hhx]
        exact List.cons_ne_nil z r
      · rw [hhx]
        exact vx_table (x := (XG m).1.1) B (atoms_spec (ws := xm_wd Ts (XG m)) B.pre _ (by rw [hw0]; exact List.mem_cons_self))
