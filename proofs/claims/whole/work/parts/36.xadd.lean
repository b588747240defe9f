/-! sale, embargo -/
/-- a public method that may make an object: the addresses of the places before stay -/
def qx_opn (D : va_G) (ad : Nat → Nat) (g : qw_G) (nS nE : Nat) (c v : Int32) (χ : Nat → Nat → Int32) : Option Value → (Nat → Nat) → qw_G → Prop := fun v' ad' g' => c = 0 ∧ some (.int v) = v' ∧ (∀ t, t < 1000 → ad' t = ad t) ∧ qx_P D χ nS nE ad' g' ∧ ∀ t, (100 ≤ t ∧ t < 1000) → g' t = g t
theorem qx_op.n {D : va_G} {ad : Nat → Nat} {g : qw_G} {nS nE : Nat} {c v : Int32} {χ : Nat → Nat → Int32} {v' : Option Value} {ad' : Nat → Nat} {g' : qw_G} (h : qx_op D ad g nS nE c v χ v' ad' g') : qx_opn D ad g nS nE c v χ v' ad' g' := ⟨h.1, h.2.1, fun t _ => by rw [h.2.2.1], by rw [← h.2.2.1]; exact h.2.2.2.1, h.2.2.2.2⟩
theorem sg_lt4 {x : Int32} (h : ¬ (4 : Int32) ≤ x) : x < 4 := by rw [Int32.le_iff_toInt_le] at h; rw [Int32.lt_iff_toInt_lt]; omega
theorem sg_ltn {x : Int32} {n b : Nat} (hx : x = nI n) (hn : n < 2147483648) (hb : b < 2147483648) (h : x < nI b) : n < b := by subst hx; exact (nI_ltI hn hb).mp h
def cx_sale (χ : Nat → Nat → Int32) (x1 x2 x3 x4 : Int32) : Int32 := if cx_tab x1 = 0 then (if x2 < 0 then 1 else if 4 ≤ x2 then 1 else if x3 < 0 then 1 else if x3 < 5 then (if x4 < -1000 then 2 else if x4 ≤ 1000 then (if χ 0 0 < 120 then 0 else 3) else 2) else 1) else 1
def cx_saleT (χ : Nat → Nat → Int32) (nS t a b : Nat) (x1 x2 x3 x4 : Int32) : Nat → Nat → Int32 := cx_dropS (va_up (va_up (qx_sold χ nS x1 x2 x3 x4) (10 + t) (cx_enter (χ (10 + t)) a b x4)) 6 (upd (χ 6) t (χ 6 t + 1))) t 4
def cx_saleS (χ : Nat → Nat → Int32) (nS : Nat) (x1 x2 x3 x4 : Int32) : Nat → Nat → Int32 := cx_saleT χ nS x1.toNatClampNeg x2.toNatClampNeg x3.toNatClampNeg x1 x2 x3 x4
set_option maxHeartbeats 4000000 in
set_option maxRecDepth 100000 in
theorem k_X6_sale {l : Launch} (hst : l.stackTraces = false) (D : va_G) (ad : Nat → Nat) (g : qw_G) (χ : Nat → Nat → Int32) (nS nE : Nat) (hX : qx_P D χ nS nE ad g) (x1 x2 x3 x4 : Int32) : qw_T l yX6_sale [Cond.code yX6_sale cX6_sale 7 (some .int)] { frames := 8, cells := 5, slots := 30, locals := 150 } D ad g [(.ref (ad 0)), (.int x1), (.int x2), (.int x3), (.int x4)] (qx_opn D ad g (nS + 1) nE (cx_sale χ x1 x2 x3 x4) (χ 0 0) (cx_saleS χ nS x1 x2 x3 x4)) (qx_px (cx_sale χ x1 x2 x3 x4)) 5 30 := by
  refine qw_T.of (maxL := 7) (own := RX6) (lv := [(0, (.ref (ad 0))), (1, (.int x1)), (2, (.int x2)), (3, (.int x3)), (4, (.int x4))]) hst (by decide) rfl rfl (Nat.le_of_ble_eq_true rfl) ?_
  intro p e s m args below meth c A C hnt
  have hb := (qx_ct hX).2.2
  refine qr_aload_n C dX6_sale_0 rfl 0 rfl ?_
  refine qr_iload_n C dX6_sale_1 rfl 1 rfl ?_
  refine qr_callVX C (na := 1) (As := [(.int x1)]) (rest := []) (k_X6_tableAt hst D ad g χ nS nE hX x1) (0) (qx_x hX) rfl rfl gi_X6_35 rfl ⟨by decide, by decide, by decide +kernel⟩ rfl rfl (Nat.le_of_ble_eq_true rfl) rfl rfl ⟨Nat.le_of_ble_eq_true rfl, Nat.le_of_ble_eq_true rfl⟩ ⟨Nat.le_of_ble_eq_true rfl, Nat.le_of_ble_eq_true rfl⟩ dX6_sale_2 (fun E hE => by obtain ⟨rfl, hc⟩ := hE; exact qr_out C hnt (Or.inl ⟨rfl, by simp only [cx_sale, if_neg hc]⟩) (Nat.le_of_ble_eq_true rfl) (Nat.le_of_ble_eq_true rfl)) (fun v ad2 gc1 hpo2 => ?_)
  obtain ⟨t, ht, htx, hc2, rfl, rfl, rfl⟩ := hpo2
  have htxc : x1.toNatClampNeg = t := by rw [htx, nI_clamp (by omega)]
  refine qr_astore (lv' := [(5, (.ref (ad (10 + t)))), (0, (.ref (ad 0))), (1, (.int x1)), (2, (.int x2)), (3, (.int x3)), (4, (.int x4))]) C dX6_sale_5 (by decide) rfl ?_
  refine qr_iload_n C dX6_sale_7 rfl 3 rfl ?_
  refine qr_if_lt C 25 dX6_sale_8 (by decide) (fun c8 => ?_) (fun c8 => ?_)
  · skip
    exact qr_throw1 C hnt (is := 41) (tx := "no such place or goods") (by decide) (Or.inl ⟨rfl, by simp only [cx_sale, if_pos hc2, if_pos c8, ite_self]⟩) dX6_sale_25 dX6_sale_28 dX6_sale_29 dX6_sale_31 dX6_sale_34 (Nat.le_of_ble_eq_true rfl) (Nat.le_of_ble_eq_true rfl) (Nat.le_of_ble_eq_true rfl) (Nat.le_of_ble_eq_true rfl) (Nat.le_of_ble_eq_true rfl) (Nat.le_of_ble_eq_true rfl)
  · skip
    refine qr_iload_n C dX6_sale_11 rfl 3 rfl ?_
    refine qr_iconst (v := 4) C dX6_sale_12 (by decide) ?_
    refine qr_icmp_ge C 25 dX6_sale_13 (by decide) (fun c13 => ?_) (fun c13 => ?_)
    · skip
      exact qr_throw1 C hnt (is := 41) (tx := "no such place or goods") (by decide) (Or.inl ⟨rfl, by simp only [cx_sale, if_pos hc2, if_neg c8, if_pos c13, ite_self]⟩) dX6_sale_25 dX6_sale_28 dX6_sale_29 dX6_sale_31 dX6_sale_34 (Nat.le_of_ble_eq_true rfl) (Nat.le_of_ble_eq_true rfl) (Nat.le_of_ble_eq_true rfl) (Nat.le_of_ble_eq_true rfl) (Nat.le_of_ble_eq_true rfl) (Nat.le_of_ble_eq_true rfl)
    · skip
      obtain ⟨ka, hka, hkax⟩ := sg_rng (n := 4) (by decide) (by omega) c8 (sg_lt4 c13)
      refine qr_iload_n C dX6_sale_16 rfl 4 rfl ?_
      refine qr_if_lt C 25 dX6_sale_17 (by decide) (fun c17 => ?_) (fun c17 => ?_)
      · skip
        exact qr_throw1 C hnt (is := 41) (tx := "no such place or goods") (by decide) (Or.inl ⟨rfl, by simp only [cx_sale, if_pos hc2, if_neg c8, if_neg c13, if_pos c17, ite_self]⟩) dX6_sale_25 dX6_sale_28 dX6_sale_29 dX6_sale_31 dX6_sale_34 (Nat.le_of_ble_eq_true rfl) (Nat.le_of_ble_eq_true rfl) (Nat.le_of_ble_eq_true rfl) (Nat.le_of_ble_eq_true rfl) (Nat.le_of_ble_eq_true rfl) (Nat.le_of_ble_eq_true rfl)
      · skip
        refine qr_iload_n C dX6_sale_20 rfl 4 rfl ?_
        refine qr_iconst (v := 5) C dX6_sale_21 (by decide) ?_
        refine qr_icmp_lt C 35 dX6_sale_22 (by decide) (fun c22 => ?_) (fun c22 => ?_)
        · skip
          obtain ⟨kb, hkb, hkbx⟩ := sg_rng (n := 5) (by decide) (by omega) c17 c22
          refine qr_iload C dX6_sale_35 5 rfl ?_
          refine qr_sipush (v := -1000) C dX6_sale_37 (by decide) ?_
          refine qr_icmp_lt C 51 dX6_sale_40 (by decide) (fun c40 => ?_) (fun c40 => ?_)
          · skip
            exact qr_throw2 C hnt (is := 48) (tx := "amount is out of range") (by decide) (Or.inr (Or.inl ⟨rfl, by simp only [cx_sale, if_pos hc2, if_neg c8, if_neg c13, if_neg c17, if_pos c22, if_pos c40, ite_self]⟩)) dX6_sale_51 dX6_sale_54 dX6_sale_55 dX6_sale_57 dX6_sale_60 (Nat.le_of_ble_eq_true rfl) (Nat.le_of_ble_eq_true rfl) (Nat.le_of_ble_eq_true rfl) (Nat.le_of_ble_eq_true rfl) (Nat.le_of_ble_eq_true rfl) (Nat.le_of_ble_eq_true rfl)
          · skip
            refine qr_iload C dX6_sale_43 5 rfl ?_
            refine qr_sipush (v := 1000) C dX6_sale_45 (by decide) ?_
            refine qr_icmp_le C 61 dX6_sale_48 (by decide) (fun c48 => ?_) (fun c48 => ?_)
            · skip
              refine qr_aload_n C dX6_sale_61 rfl 1 rfl ?_
              refine gf_X6_51 C (0) (qx_x hX) rfl rfl dX6_sale_62 ?_
              refine qr_bipush (v := 120) C dX6_sale_65 (by decide) ?_
              refine qr_icmp_lt C 80 dX6_sale_67 (by decide) (fun c67 => ?_) (fun c67 => ?_)
              · skip
                have hlt : nS < 120 := sg_ltn (qx_ct hX).1 (by omega) (by omega) c67
                refine qr_aload_n C dX6_sale_80 rfl 1 rfl ?_
                refine gf_X6_51 C (0) (qx_x hX) rfl rfl dX6_sale_81 ?_
                refine qr_istore (lv' := [(6, (.int (χ 0 0))), (5, (.ref (ad (10 + t)))), (0, (.ref (ad 0))), (1, (.int x1)), (2, (.int x2)), (3, (.int x3)), (4, (.int x4))]) C dX6_sale_84 (by decide) rfl ?_
                refine qr_aload_n C dX6_sale_86 rfl 2 rfl ?_
                refine gf_X6_18 C (0) (qx_x hX) rfl rfl dX6_sale_87 ?_
                refine qr_iload C dX6_sale_90 0 rfl ?_
                have hfree : g (1000 + nS) = none := (qx_no hX).1 nS (Nat.le_refl _) hlt
                refine qr_new C qi_X4 tyX4 tyX4_ok gc_X6_16 gcn_X4.1 gcn_X4.2 [.int 0, .int 0, .int 0, .int 0, .int 0] qz_X4 (1000 + nS) hfree (Nat.le_of_ble_eq_true rfl) (Nat.le_of_ble_eq_true rfl) dX6_sale_92 ?_
                intro q
                generalize hA : va_up ad (1000 + nS) q = ad2
                have haq : q = ad2 (1000 + nS) := by rw [← hA]; exact (va_up_self _ _ _).symm
                have had : ∀ t, t ≠ 1000 + nS → ad t = ad2 t := fun t ht => by rw [← hA]; exact (va_up_ne _ _ ht).symm
                have hX2 : qx_P D χ nS nE ad2 g := qx_ad hX (fun t ht => (had t (by omega)).symm) (fun i hi => (had _ (by omega)).symm) (fun i hi => (had _ (by omega)).symm)
                generalize hgn : va_up g (1000 + nS) _ = gn
                refine qw_to (lv' := [(6, (.int (χ 0 0))), (5, (.ref (ad2 (10 + t)))), (0, (.ref (ad2 0))), (1, (.int x1)), (2, (.int x2)), (3, (.int x3)), (4, (.int x4))]) (st' := [(.ref (ad2 (1000 + nS))), (.int (χ 0 0)), (.ref (ad2 2))]) rfl rfl (by simp only [had ((10 + t)) (by omega), had (0) (by omega)]; try rfl) (by simp only [haq, had (2) (by omega)]; try rfl) ?_
                have hnn : ∀ t, t ≠ 1000 + nS → gn t = g t := fun t ht => by rw [← hgn]; exact va_up_ne _ _ ht
                have hnu : gn (1000 + nS) = some (.inr (3, [.int 0, .int 0, .int 0, .int 0, .int 0])) := by rw [← hgn]; exact va_up_self _ _ _
                have f3 : gn (0) = g (0) := hnn (0) (by omega)
                have f4 : gn (2) = g (2) := hnn (2) (by omega)
                refine qr_dup C dX6_sale_95 rfl ?_
                refine qr_iload_n C dX6_sale_96 rfl 3 rfl ?_
                refine qr_iload_n C dX6_sale_97 rfl 4 rfl ?_
                refine qr_iload_n C dX6_sale_98 rfl 5 rfl ?_
                refine qr_iload C dX6_sale_99 6 rfl ?_
                refine qr_callNI (cret := none) C (na := 4) (As := [(.int x1), (.int x2), (.int x3), (.int x4)]) (rest := [(.ref (ad2 (1000 + nS))), (.int (χ 0 0)), (.ref (ad2 2))]) (k_X4_init hst D ad2 gn (1000 + nS) (hnu) (x1) (x2) (x3) (x4)) gi_X6_60.1 gi_X6_60.2.1 gi_X6_60.2.2.1 gi_X6_60.2.2.2 rfl ⟨by decide, by decide, by decide +kernel⟩ rfl rfl (Nat.le_of_ble_eq_true rfl) rfl rfl ⟨Nat.le_of_ble_eq_true rfl, Nat.le_of_ble_eq_true rfl⟩ ⟨Nat.le_of_ble_eq_true rfl, Nat.le_of_ble_eq_true rfl⟩ dX6_sale_101 (fun v ad2 gi hini => ?_)
                obtain ⟨rfl, rfl, hiu, hin1⟩ := hini
                have f5 : gi (0) = gn (0) := hin1 (0) (by omega)
                have f6 : gi (2) = gn (2) := hin1 (2) (by omega)
                refine qr_aast C 4 rfl rfl (2) (1000 + nS) ((f6.trans ((f4.trans (qx_sa hX2))))) rfl (hiu) rfl (j := nS) (qx_ct hX).1 (by omega) rfl dX6_sale_104 ?_
                generalize hg8 : va_up gi (2) _ = g7
                have f9 : g7 (2) = some (.inl (D.1 24, 120, .inr (.inr (.inr (.inr (va_up (fun i => if i < nS then some (ad2 (1000 + i)) else none) nS (some (ad2 (1000 + nS))))))))) := by rw [← hg8]; exact va_up_self _ _ _
                have f10 : g7 (0) = gi (0) := by rw [← hg8]; exact va_up_ne _ _ (by omega)
                have f11 : g7 (1000 + nS) = gi (1000 + nS) := by rw [← hg8]; exact va_up_ne _ _ (by omega)
                refine qr_aload_n C dX6_sale_105 rfl 2 rfl ?_
                refine qr_dup C dX6_sale_106 rfl ?_
                refine gf_X6_51 C (0) ((f10.trans ((f5.trans ((f3.trans (qx_x hX2))))))) rfl rfl dX6_sale_107 ?_
                refine qr_iconst (v := 1) C dX6_sale_110 (by decide) ?_
                refine qr_iadd C dX6_sale_111 ?_
                refine pf_X6_51 C (0) ((f10.trans ((f5.trans ((f3.trans (qx_x hX2))))))) rfl rfl rfl (Nat.le_of_ble_eq_true rfl) rfl dX6_sale_112 ?_
                generalize hg13 : va_up g7 (0) _ = g12
                have f14 : g12 (0) = some (.inr (5, [(.ref (ad2 1)), (.ref (ad2 2)), (.ref (ad2 3)), (.ref (ad2 4)), (.int ((χ 0 0) + (1 : Int32))), (.int (χ 1 0)), (.int (χ 2 0)), (.int (χ 3 0)), (.int (χ 4 0))])) := by rw [← hg13]; exact va_up_self _ _ _
                have f15 : g12 (1000 + nS) = g7 (1000 + nS) := by rw [← hg13]; exact va_up_ne _ _ (by omega)
                have f16 : g12 (2) = g7 (2) := by rw [← hg13]; exact va_up_ne _ _ (by omega)
                have hX3 : qx_P D (qx_sold χ nS x1 x2 x3 x4) (nS + 1) nE ad2 g12 := qx_a_sold hX2 hlt (f14) ((f16.trans (f9))) ((f15.trans ((f11.trans (hiu))))) (fun t h0 h2 hu => ((congrFun hg13 t).symm.trans ((va_up_ne _ _ (by omega)).trans ((congrFun hg8 t).symm.trans ((va_up_ne _ _ (by omega)).trans ((hin1 t (by omega)).trans ((hnn t (by omega)).trans rfl)))))))
                have e10 : (qx_sold χ nS x1 x2 x3 x4) (10 + t) = χ (10 + t) := qx_5_ne (by omega) (Or.inl (by omega))
                have e6 : ∀ (G : Nat → Int32), (va_up (qx_sold χ nS x1 x2 x3 x4) (10 + t) G) 6 = χ 6 := fun G => (va_up_ne _ _ (by omega)).trans rfl
                refine qr_aload C dX6_sale_115 1 rfl ?_
                refine qr_iload_n C dX6_sale_117 rfl 4 rfl ?_
                refine qr_iload_n C dX6_sale_118 rfl 5 rfl ?_
                refine qr_iload C dX6_sale_119 6 rfl ?_
                refine qr_callNV C (na := 3) (As := [(.int x2), (.int x3), (.int x4)]) (rest := []) (k_X5_enter hst D ad2 g12 (qx_sold χ nS x1 x2 x3 x4) (nS + 1) nE hX3 t ka kb ht hka hkb (x2) (x3) (x4) hkax hkbx) ((10 + t)) (qx_tb hX3 t (by omega)) rfl rfl gi_X6_63.1 gi_X6_63.2.1 gi_X6_63.2.2.1 gi_X6_63.2.2.2.1 gi_X6_63.2.2.2.2 ⟨by decide, by decide, by decide +kernel⟩ rfl rfl (Nat.le_of_ble_eq_true rfl) rfl rfl ⟨Nat.le_of_ble_eq_true rfl, Nat.le_of_ble_eq_true rfl⟩ ⟨Nat.le_of_ble_eq_true rfl, Nat.le_of_ble_eq_true rfl⟩ dX6_sale_121 (fun v ad2 gc17 hpo18 => ?_)
                obtain ⟨rfl, rfl, hX19, hfr20⟩ := hpo18
                refine qr_aload C dX6_sale_124 1 rfl ?_
                refine qr_dup C dX6_sale_126 rfl ?_
                refine gf_X6_67 C ((10 + t)) (qx_tb hX19 t (by omega)) rfl rfl dX6_sale_127 ?_
                refine qr_iconst (v := 1) C dX6_sale_130 (by decide) ?_
                refine qr_iadd C dX6_sale_131 ?_
                refine pf_X6_67 C ((10 + t)) (qx_tb hX19 t (by omega)) rfl rfl rfl (Nat.le_of_ble_eq_true rfl) rfl dX6_sale_132 ?_
                generalize hg22 : va_up gc17 ((10 + t)) _ = g21
                have hX23 : qx_P D (va_up (va_up (qx_sold χ nS x1 x2 x3 x4) (10 + t) (cx_enter ((qx_sold χ nS x1 x2 x3 x4) (10 + t)) ka kb (x4))) 6 (upd ((va_up (qx_sold χ nS x1 x2 x3 x4) (10 + t) (cx_enter ((qx_sold χ nS x1 x2 x3 x4) (10 + t)) ka kb (x4))) 6) t (((va_up (qx_sold χ nS x1 x2 x3 x4) (10 + t) (cx_enter ((qx_sold χ nS x1 x2 x3 x4) (10 + t)) ka kb (x4))) 6 t) + (1 : Int32)))) (nS + 1) nE ad2 g21 := by rw [← hg22]; exact qx_w_stand hX19 t (by omega) (((va_up (qx_sold χ nS x1 x2 x3 x4) (10 + t) (cx_enter ((qx_sold χ nS x1 x2 x3 x4) (10 + t)) ka kb (x4))) 6 t) + (1 : Int32))
                refine qr_aload_n C dX6_sale_135 rfl 2 rfl ?_
                refine qr_aload C dX6_sale_136 1 rfl ?_
                refine qr_iconst (v := 4) C dX6_sale_138 (by decide) ?_
                refine qr_callV C (na := 2) (As := [(.ref (ad2 (10 + t))), (.int (4 : Int32))]) (rest := []) (k_X6_dropBelow hst D ad2 g21 (va_up (va_up (qx_sold χ nS x1 x2 x3 x4) (10 + t) (cx_enter ((qx_sold χ nS x1 x2 x3 x4) (10 + t)) ka kb (x4))) 6 (upd ((va_up (qx_sold χ nS x1 x2 x3 x4) (10 + t) (cx_enter ((qx_sold χ nS x1 x2 x3 x4) (10 + t)) ka kb (x4))) 6) t (((va_up (qx_sold χ nS x1 x2 x3 x4) (10 + t) (cx_enter ((qx_sold χ nS x1 x2 x3 x4) (10 + t)) ka kb (x4))) 6 t) + (1 : Int32)))) (nS + 1) nE hX23 t 4 ht (by omega) ((4 : Int32)) rfl) (0) (qx_x hX23) rfl rfl gi_X6_70 rfl ⟨by decide, by decide, by decide +kernel⟩ rfl rfl (Nat.le_of_ble_eq_true rfl) rfl rfl ⟨Nat.le_of_ble_eq_true rfl, Nat.le_of_ble_eq_true rfl⟩ ⟨Nat.le_of_ble_eq_true rfl, Nat.le_of_ble_eq_true rfl⟩ dX6_sale_139 (fun v ad2 gc24 hpo25 => ?_)
                obtain ⟨rfl, rfl, hX26, hfr27⟩ := hpo25
                refine qr_iload C dX6_sale_142 0 rfl ?_
                exact qr_iretX C rfl (Nat.le_of_ble_eq_true rfl) (Nat.le_of_ble_eq_true rfl) dX6_sale_144 (⟨by simp only [cx_sale, if_pos hc2, if_neg c8, if_neg c13, if_neg c17, if_pos c22, if_neg c40, if_pos c48, if_pos c67], rfl, fun t1 ht1 => (had t1 (by omega)).symm, by have h9 := hX26; simp only [e10, e6] at h9; unfold cx_saleS; rw [htxc, show x2.toNatClampNeg = ka by rw [hkax, nI_clamp (by omega)], show x3.toNatClampNeg = kb by rw [hkbx, nI_clamp (by omega)]]; exact h9, fun t1 ht1 => ((hfr27 t1 ht1).trans ((congrFun hg22 t1).symm.trans ((va_up_ne _ _ (by omega)).trans ((hfr20 t1 ht1).trans ((congrFun hg13 t1).symm.trans ((va_up_ne _ _ (by omega)).trans ((congrFun hg8 t1).symm.trans ((va_up_ne _ _ (by omega)).trans ((hin1 t1 (by omega)).trans ((hnn t1 (by omega)).trans rfl))))))))))⟩)
              · skip
                exact qr_throw3 C hnt (is := 57) (tx := "there are 120 sales") (by decide) (Or.inr (Or.inr ⟨rfl, by simp only [cx_sale, if_pos hc2, if_neg c8, if_neg c13, if_neg c17, if_pos c22, if_neg c40, if_pos c48, if_neg c67, ite_self]⟩)) dX6_sale_70 dX6_sale_73 dX6_sale_74 dX6_sale_76 dX6_sale_79 (Nat.le_of_ble_eq_true rfl) (Nat.le_of_ble_eq_true rfl) (Nat.le_of_ble_eq_true rfl) (Nat.le_of_ble_eq_true rfl) (Nat.le_of_ble_eq_true rfl) (Nat.le_of_ble_eq_true rfl)
            · skip
              exact qr_throw2 C hnt (is := 48) (tx := "amount is out of range") (by decide) (Or.inr (Or.inl ⟨rfl, by simp only [cx_sale, if_pos hc2, if_neg c8, if_neg c13, if_neg c17, if_pos c22, if_neg c40, if_neg c48, ite_self]⟩)) dX6_sale_51 dX6_sale_54 dX6_sale_55 dX6_sale_57 dX6_sale_60 (Nat.le_of_ble_eq_true rfl) (Nat.le_of_ble_eq_true rfl) (Nat.le_of_ble_eq_true rfl) (Nat.le_of_ble_eq_true rfl) (Nat.le_of_ble_eq_true rfl) (Nat.le_of_ble_eq_true rfl)
        · skip
          exact qr_throw1 C hnt (is := 41) (tx := "no such place or goods") (by decide) (Or.inl ⟨rfl, by simp only [cx_sale, if_pos hc2, if_neg c8, if_neg c13, if_neg c17, if_neg c22, ite_self]⟩) dX6_sale_25 dX6_sale_28 dX6_sale_29 dX6_sale_31 dX6_sale_34 (Nat.le_of_ble_eq_true rfl) (Nat.le_of_ble_eq_true rfl) (Nat.le_of_ble_eq_true rfl) (Nat.le_of_ble_eq_true rfl) (Nat.le_of_ble_eq_true rfl) (Nat.le_of_ble_eq_true rfl)
def cx_emb (χ : Nat → Nat → Int32) (x1 x2 x3 x4 x5 : Int32) : Int32 := if cx_ent χ x1 x2 x3 = 0 then (if x4 < 1 then 2 else if x4 < 4 then (if x5 < 1 then 2 else if x5 ≤ 100 then (if χ 1 0 < 40 then 0 else 3) else 2) else 2) else 1
def cx_embT (χ : Nat → Nat → Int32) (nE t L : Nat) (a b c d : Int32) : Nat → Nat → Int32 := cx_dropS (qx_emba χ nE a b c d) t L
def cx_embS (χ : Nat → Nat → Int32) (nE : Nat) (x1 x2 x3 x4 x5 : Int32) : Nat → Nat → Int32 := cx_embT χ nE x1.toNatClampNeg x4.toNatClampNeg x1 (cx_entv χ x1 x2 x3) x4 (χ 2 0 + x5)
theorem sg_ge0 {x : Int32} (h : ¬ x < 1) : ¬ x < 0 := by rw [Int32.lt_iff_toInt_lt] at *; have e0 : (0 : Int32).toInt = 0 := by decide
                                                         have e1 : (1 : Int32).toInt = 1 := by decide
                                                         omega
set_option maxHeartbeats 4000000 in
set_option maxRecDepth 100000 in
theorem k_X6_embargo {l : Launch} (hst : l.stackTraces = false) (D : va_G) (ad : Nat → Nat) (g : qw_G) (χ : Nat → Nat → Int32) (nS nE : Nat) (hX : qx_P D χ nS nE ad g) (x1 x2 x3 x4 x5 : Int32) : qw_T l yX6_embargo [Cond.code yX6_embargo cX6_embargo 8 (some .int)] { frames := 8, cells := 5, slots := 30, locals := 150 } D ad g [(.ref (ad 0)), (.int x1), (.int x2), (.int x3), (.int x4), (.int x5)] (qx_opn D ad g nS (nE + 1) (cx_emb χ x1 x2 x3 x4 x5) (χ 1 0) (cx_embS χ nE x1 x2 x3 x4 x5)) (qx_px (cx_emb χ x1 x2 x3 x4 x5)) 5 30 := by
  refine qw_T.of (maxL := 8) (own := RX6) (lv := [(0, (.ref (ad 0))), (1, (.int x1)), (2, (.int x2)), (3, (.int x3)), (4, (.int x4)), (5, (.int x5))]) hst (by decide) rfl rfl (Nat.le_of_ble_eq_true rfl) ?_
  intro p e s m args below meth c A C hnt
  have hb := (qx_ct hX).2.2
  refine qr_aload_n C dX6_embargo_0 rfl 0 rfl ?_
  refine qr_iload_n C dX6_embargo_1 rfl 1 rfl ?_
  refine qr_iload_n C dX6_embargo_2 rfl 2 rfl ?_
  refine qr_iload_n C dX6_embargo_3 rfl 3 rfl ?_
  refine qr_callVX C (na := 3) (As := [(.int x1), (.int x2), (.int x3)]) (rest := []) (k_X6_entryOfTable hst D ad g χ nS nE hX x1 x2 x3) (0) (qx_x hX) rfl rfl gi_X6_97 rfl ⟨by decide, by decide, by decide +kernel⟩ rfl rfl (Nat.le_of_ble_eq_true rfl) rfl rfl ⟨Nat.le_of_ble_eq_true rfl, Nat.le_of_ble_eq_true rfl⟩ ⟨Nat.le_of_ble_eq_true rfl, Nat.le_of_ble_eq_true rfl⟩ dX6_embargo_4 (fun E hE => by obtain ⟨rfl, hc⟩ := hE; exact qr_out C hnt (Or.inl ⟨rfl, by simp only [cx_emb, if_neg hc]⟩) (Nat.le_of_ble_eq_true rfl) (Nat.le_of_ble_eq_true rfl)) (fun v ad2 gc1 hpo2 => ?_)
  obtain ⟨t0, a0, b0, ht0, ha0, hb0, ht0x, hent, hc4, rfl, rfl, rfl⟩ := hpo2
  have ht0xc : x1.toNatClampNeg = t0 := by rw [ht0x, nI_clamp (by omega)]
  have hentc : (cx_entv χ x1 x2 x3).toNatClampNeg = a0 * 6 + b0 := by rw [hent, nI_clamp (by omega)]
  refine qr_istore (lv' := [(6, (.int (nI (a0 * 6 + b0)))), (0, (.ref (ad 0))), (1, (.int x1)), (2, (.int x2)), (3, (.int x3)), (4, (.int x4)), (5, (.int x5))]) C dX6_embargo_7 (by decide) rfl ?_
  refine qr_iload C dX6_embargo_9 5 rfl ?_
  refine qr_iconst (v := 1) C dX6_embargo_11 (by decide) ?_
  refine qr_icmp_lt C 21 dX6_embargo_12 (by decide) (fun c12 => ?_) (fun c12 => ?_)
  · skip
    exact qr_throw2 C hnt (is := 109) (tx := "level is out of range") (by decide) (Or.inr (Or.inl ⟨rfl, by simp only [cx_emb, if_pos hc4, if_pos c12, ite_self]⟩)) dX6_embargo_21 dX6_embargo_24 dX6_embargo_25 dX6_embargo_27 dX6_embargo_30 (Nat.le_of_ble_eq_true rfl) (Nat.le_of_ble_eq_true rfl) (Nat.le_of_ble_eq_true rfl) (Nat.le_of_ble_eq_true rfl) (Nat.le_of_ble_eq_true rfl) (Nat.le_of_ble_eq_true rfl)
  · skip
    refine qr_iload C dX6_embargo_15 5 rfl ?_
    refine qr_iconst (v := 4) C dX6_embargo_17 (by decide) ?_
    refine qr_icmp_lt C 31 dX6_embargo_18 (by decide) (fun c18 => ?_) (fun c18 => ?_)
    · skip
      obtain ⟨kv, hkv, hkvx⟩ := sg_rng (n := 4) (by decide) (by omega) (sg_ge0 c12) c18
      refine qr_iload C dX6_embargo_31 6 rfl ?_
      refine qr_iconst (v := 1) C dX6_embargo_33 (by decide) ?_
      refine qr_icmp_lt C 44 dX6_embargo_34 (by decide) (fun c34 => ?_) (fun c34 => ?_)
      · skip
        exact qr_throw2 C hnt (is := 111) (tx := "hours is out of range") (by decide) (Or.inr (Or.inl ⟨rfl, by simp only [cx_emb, if_pos hc4, if_neg c12, if_pos c18, if_pos c34, ite_self]⟩)) dX6_embargo_44 dX6_embargo_47 dX6_embargo_48 dX6_embargo_50 dX6_embargo_53 (Nat.le_of_ble_eq_true rfl) (Nat.le_of_ble_eq_true rfl) (Nat.le_of_ble_eq_true rfl) (Nat.le_of_ble_eq_true rfl) (Nat.le_of_ble_eq_true rfl) (Nat.le_of_ble_eq_true rfl)
      · skip
        refine qr_iload C dX6_embargo_37 6 rfl ?_
        refine qr_bipush (v := 100) C dX6_embargo_39 (by decide) ?_
        refine qr_icmp_le C 54 dX6_embargo_41 (by decide) (fun c41 => ?_) (fun c41 => ?_)
        · skip
          refine qr_aload_n C dX6_embargo_54 rfl 1 rfl ?_
          refine gf_X6_113 C (0) (qx_x hX) rfl rfl dX6_embargo_55 ?_
          refine qr_bipush (v := 40) C dX6_embargo_58 (by decide) ?_
          refine qr_icmp_lt C 73 dX6_embargo_60 (by decide) (fun c60 => ?_) (fun c60 => ?_)
          · skip
            have hlt : nE < 40 := sg_ltn (qx_ct hX).2.1 (by omega) (by omega) c60
            refine qr_aload_n C dX6_embargo_73 rfl 1 rfl ?_
            refine gf_X6_113 C (0) (qx_x hX) rfl rfl dX6_embargo_74 ?_
            refine qr_istore (lv' := [(7, (.int (χ 1 0))), (6, (.int (nI (a0 * 6 + b0)))), (0, (.ref (ad 0))), (1, (.int x1)), (2, (.int x2)), (3, (.int x3)), (4, (.int x4)), (5, (.int x5))]) C dX6_embargo_77 (by decide) rfl ?_
            refine qr_aload_n C dX6_embargo_79 rfl 2 rfl ?_
            refine gf_X6_24 C (0) (qx_x hX) rfl rfl dX6_embargo_80 ?_
            refine qr_iload C dX6_embargo_83 0 rfl ?_
            have hfree : g (2000 + nE) = none := (qx_no hX).2 nE (Nat.le_refl _) hlt
            refine qr_new C qi_X1 tyX1 tyX1_ok gc_X6_22 gcn_X1.1 gcn_X1.2 [.int 0, .int 0, .int 0, .int 0, .int 0] qz_X1 (2000 + nE) hfree (Nat.le_of_ble_eq_true rfl) (Nat.le_of_ble_eq_true rfl) dX6_embargo_85 ?_
            intro q
            generalize hA : va_up ad (2000 + nE) q = ad2
            have haq : q = ad2 (2000 + nE) := by rw [← hA]; exact (va_up_self _ _ _).symm
            have had : ∀ t, t ≠ 2000 + nE → ad t = ad2 t := fun t ht => by rw [← hA]; exact (va_up_ne _ _ ht).symm
            have hX2 : qx_P D χ nS nE ad2 g := qx_ad hX (fun t ht => (had t (by omega)).symm) (fun i hi => (had _ (by omega)).symm) (fun i hi => (had _ (by omega)).symm)
            generalize hgn : va_up g (2000 + nE) _ = gn
            refine qw_to (lv' := [(7, (.int (χ 1 0))), (6, (.int (nI (a0 * 6 + b0)))), (0, (.ref (ad2 0))), (1, (.int x1)), (2, (.int x2)), (3, (.int x3)), (4, (.int x4)), (5, (.int x5))]) (st' := [(.ref (ad2 (2000 + nE))), (.int (χ 1 0)), (.ref (ad2 3))]) rfl rfl (by simp only [had (0) (by omega)]; try rfl) (by simp only [haq, had (3) (by omega)]; try rfl) ?_
            have hnn : ∀ t, t ≠ 2000 + nE → gn t = g t := fun t ht => by rw [← hgn]; exact va_up_ne _ _ ht
            have hnu : gn (2000 + nE) = some (.inr (0, [.int 0, .int 0, .int 0, .int 0, .int 0])) := by rw [← hgn]; exact va_up_self _ _ _
            have f3 : gn (0) = g (0) := hnn (0) (by omega)
            have f4 : gn (3) = g (3) := hnn (3) (by omega)
            refine qr_dup C dX6_embargo_88 rfl ?_
            refine qr_iload_n C dX6_embargo_89 rfl 3 rfl ?_
            refine qr_iload C dX6_embargo_90 1 rfl ?_
            refine qr_iload C dX6_embargo_92 6 rfl ?_
            refine qr_aload_n C dX6_embargo_94 rfl 2 rfl ?_
            refine gf_X6_118 C (0) ((f3.trans (qx_x hX2))) rfl rfl dX6_embargo_95 ?_
            refine qr_iload C dX6_embargo_98 7 rfl ?_
            refine qr_iadd C dX6_embargo_100 ?_
            refine qr_callNI (cret := none) C (na := 4) (As := [(.int x1), (.int (nI (a0 * 6 + b0))), (.int x4), (.int ((χ 2 0) + x5))]) (rest := [(.ref (ad2 (2000 + nE))), (.int (χ 1 0)), (.ref (ad2 3))]) (k_X1_init hst D ad2 gn (2000 + nE) (hnu) (x1) ((nI (a0 * 6 + b0))) (x4) (((χ 2 0) + x5))) gi_X6_121.1 gi_X6_121.2.1 gi_X6_121.2.2.1 gi_X6_121.2.2.2 rfl ⟨by decide, by decide, by decide +kernel⟩ rfl rfl (Nat.le_of_ble_eq_true rfl) rfl rfl ⟨Nat.le_of_ble_eq_true rfl, Nat.le_of_ble_eq_true rfl⟩ ⟨Nat.le_of_ble_eq_true rfl, Nat.le_of_ble_eq_true rfl⟩ dX6_embargo_101 (fun v ad2 gi hini => ?_)
            obtain ⟨rfl, rfl, hiu, hin1⟩ := hini
            have f5 : gi (0) = gn (0) := hin1 (0) (by omega)
            have f6 : gi (3) = gn (3) := hin1 (3) (by omega)
            refine qr_aast C 5 rfl rfl (3) (2000 + nE) ((f6.trans ((f4.trans (qx_ea hX2))))) rfl (hiu) rfl (j := nE) (qx_ct hX).2.1 (by omega) rfl dX6_embargo_104 ?_
            generalize hg8 : va_up gi (3) _ = g7
            have f9 : g7 (3) = some (.inl (D.1 25, 40, .inr (.inr (.inr (.inr (va_up (fun i => if i < nE then some (ad2 (2000 + i)) else none) nE (some (ad2 (2000 + nE))))))))) := by rw [← hg8]; exact va_up_self _ _ _
            have f10 : g7 (0) = gi (0) := by rw [← hg8]; exact va_up_ne _ _ (by omega)
            have f11 : g7 (2000 + nE) = gi (2000 + nE) := by rw [← hg8]; exact va_up_ne _ _ (by omega)
            refine qr_aload_n C dX6_embargo_105 rfl 2 rfl ?_
            refine qr_dup C dX6_embargo_106 rfl ?_
            refine gf_X6_113 C (0) ((f10.trans ((f5.trans ((f3.trans (qx_x hX2))))))) rfl rfl dX6_embargo_107 ?_
            refine qr_iconst (v := 1) C dX6_embargo_110 (by decide) ?_
            refine qr_iadd C dX6_embargo_111 ?_
            refine pf_X6_113 C (0) ((f10.trans ((f5.trans ((f3.trans (qx_x hX2))))))) rfl rfl rfl (Nat.le_of_ble_eq_true rfl) rfl dX6_embargo_112 ?_
            generalize hg13 : va_up g7 (0) _ = g12
            have f14 : g12 (0) = some (.inr (5, [(.ref (ad2 1)), (.ref (ad2 2)), (.ref (ad2 3)), (.ref (ad2 4)), (.int (χ 0 0)), (.int ((χ 1 0) + (1 : Int32))), (.int (χ 2 0)), (.int (χ 3 0)), (.int (χ 4 0))])) := by rw [← hg13]; exact va_up_self _ _ _
            have f15 : g12 (2000 + nE) = g7 (2000 + nE) := by rw [← hg13]; exact va_up_ne _ _ (by omega)
            have f16 : g12 (3) = g7 (3) := by rw [← hg13]; exact va_up_ne _ _ (by omega)
            have hX3 : qx_P D (qx_emba χ nE x1 (nI (a0 * 6 + b0)) x4 (χ 2 0 + x5)) nS (nE + 1) ad2 g12 := qx_a_emba hX2 hlt (f14) ((f16.trans (f9))) ((f15.trans ((f11.trans (hiu))))) (fun t h0 h2 hu => ((congrFun hg13 t).symm.trans ((va_up_ne _ _ (by omega)).trans ((congrFun hg8 t).symm.trans ((va_up_ne _ _ (by omega)).trans ((hin1 t (by omega)).trans ((hnn t (by omega)).trans rfl)))))))
            refine qr_aload_n C dX6_embargo_115 rfl 2 rfl ?_
            refine qr_aload_n C dX6_embargo_116 rfl 2 rfl ?_
            refine gf_X6_11 C (0) (qx_x hX3) rfl rfl dX6_embargo_117 ?_
            refine qr_iload_n C dX6_embargo_120 rfl 3 rfl ?_
            refine qr_aald C 3 rfl rfl (1) (qx_ta hX3) rfl (j := t0) ht0x (by omega) rfl (if_pos (by omega)) dX6_embargo_121 ?_
            refine qr_iload C dX6_embargo_122 6 rfl ?_
            refine qr_callV C (na := 2) (As := [(.ref (ad2 (10 + t0))), (.int x4)]) (rest := []) (k_X6_dropBelow hst D ad2 g12 (qx_emba χ nE x1 (nI (a0 * 6 + b0)) x4 (χ 2 0 + x5)) nS (nE + 1) hX3 t0 kv ht0 (by omega) (x4) hkvx) (0) (qx_x hX3) rfl rfl gi_X6_70 rfl ⟨by decide, by decide, by decide +kernel⟩ rfl rfl (Nat.le_of_ble_eq_true rfl) rfl rfl ⟨Nat.le_of_ble_eq_true rfl, Nat.le_of_ble_eq_true rfl⟩ ⟨Nat.le_of_ble_eq_true rfl, Nat.le_of_ble_eq_true rfl⟩ dX6_embargo_124 (fun v ad2 gc17 hpo18 => ?_)
            obtain ⟨rfl, rfl, hX19, hfr20⟩ := hpo18
            refine qr_iload C dX6_embargo_127 0 rfl ?_
            exact qr_iretX C rfl (Nat.le_of_ble_eq_true rfl) (Nat.le_of_ble_eq_true rfl) dX6_embargo_129 (⟨by simp only [cx_emb, if_pos hc4, if_neg c12, if_pos c18, if_neg c34, if_pos c41, if_pos c60], rfl, fun t1 ht1 => (had t1 (by omega)).symm, by unfold cx_embS; rw [ht0xc, hent, show x4.toNatClampNeg = kv by rw [hkvx, nI_clamp (by omega)]]; exact hX19, fun t1 ht1 => ((hfr20 t1 ht1).trans ((congrFun hg13 t1).symm.trans ((va_up_ne _ _ (by omega)).trans ((congrFun hg8 t1).symm.trans ((va_up_ne _ _ (by omega)).trans ((hin1 t1 (by omega)).trans ((hnn t1 (by omega)).trans rfl)))))))⟩)
          · skip
            exact qr_throw3 C hnt (is := 116) (tx := "there are 40 embargoes") (by decide) (Or.inr (Or.inr ⟨rfl, by simp only [cx_emb, if_pos hc4, if_neg c12, if_pos c18, if_neg c34, if_pos c41, if_neg c60, ite_self]⟩)) dX6_embargo_63 dX6_embargo_66 dX6_embargo_67 dX6_embargo_69 dX6_embargo_72 (Nat.le_of_ble_eq_true rfl) (Nat.le_of_ble_eq_true rfl) (Nat.le_of_ble_eq_true rfl) (Nat.le_of_ble_eq_true rfl) (Nat.le_of_ble_eq_true rfl) (Nat.le_of_ble_eq_true rfl)
        · skip
          exact qr_throw2 C hnt (is := 111) (tx := "hours is out of range") (by decide) (Or.inr (Or.inl ⟨rfl, by simp only [cx_emb, if_pos hc4, if_neg c12, if_pos c18, if_neg c34, if_neg c41, ite_self]⟩)) dX6_embargo_44 dX6_embargo_47 dX6_embargo_48 dX6_embargo_50 dX6_embargo_53 (Nat.le_of_ble_eq_true rfl) (Nat.le_of_ble_eq_true rfl) (Nat.le_of_ble_eq_true rfl) (Nat.le_of_ble_eq_true rfl) (Nat.le_of_ble_eq_true rfl) (Nat.le_of_ble_eq_true rfl)
    · skip
      exact qr_throw2 C hnt (is := 109) (tx := "level is out of range") (by decide) (Or.inr (Or.inl ⟨rfl, by simp only [cx_emb, if_pos hc4, if_neg c12, if_neg c18, ite_self]⟩)) dX6_embargo_21 dX6_embargo_24 dX6_embargo_25 dX6_embargo_27 dX6_embargo_30 (Nat.le_of_ble_eq_true rfl) (Nat.le_of_ble_eq_true rfl) (Nat.le_of_ble_eq_true rfl) (Nat.le_of_ble_eq_true rfl) (Nat.le_of_ble_eq_true rfl) (Nat.le_of_ble_eq_true rfl)
