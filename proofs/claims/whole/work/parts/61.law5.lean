set_option maxRecDepth 100000 in
set_option maxHeartbeats 4000000 in
theorem law_find {p : Program} {l : Launch} {e : Env} {s : State} {m : MethodId} {below : List Frame} {meth : Method} {c : Code} {D : va_G} {T : Nat → ClassId} {ad ad2 : Nat → Nat} {A : Nat → Prop} {b L : Nat} {xs : Nat → Int32} (E : EN room_1 46 614819 p s m #[Value.ref b] meth c code 4 ret wsL_law RL D (tyX T) (WL T ad ad2) (alX ad ++ alM ad2) A) (hX : va_X b L xs s s.heap) (hbl : b < s.heap.size) (hbA : ¬ A b) (hL : L ≤ 3584) (hN : ∀ i j, i < 33 → j < 33 → ad i = ad j → i = j) (hM : ∀ i j, i < 13 → j < 13 → ad2 i = ad2 j → i = j) (hdj : ∀ i j, i < 33 → j < 13 → ad i ≠ ad2 j) {a : AB_} {s1 s2 : St_} {i : Int} (hi : 0 ≤ i ∧ i + 7 ≤ (L : Int)) (hC : CI s1 a) (hI : MI s2 a) (kk : ∀ (a1 : AB_) (t1 t2 : St_), CI t1 a1 → MI t2 a1 → XJ p l e room_1 s m #[Value.ref b] below meth c D (WL T ad ad2) A 4 (lw_Z below #[Value.ref b] s) 46 614819 (t1, t2) 916 [(0, .ref b), (1, .ref (ad 0)), (2, .ref (ad2 0)), (3, .int (ii i))] []) : XJ p l e room_1 s m #[Value.ref b] below meth c D (WL T ad ad2) A 4 (lw_Z below #[Value.ref b] s) 46 614819 (s1, s2) 793 [(0, .ref b), (1, .ref (ad 0)), (2, .ref (ad2 0)), (3, .int (ii i))] [] := by
  have k1 := hC.1
  have k2 := hI.1
  have k3 := hC.2.2.2.2.2.2.2.1
  rcases (show (0 ≤ sc xs (i + 1) ∧ sc xs (i + 1) < s1.1 2) ∨ (sc xs (i + 1) < 0 ∨ s1.1 2 ≤ sc xs (i + 1)) by omega) with c9 | c9
  · obtain ⟨r, hr⟩ : ∃ r : Nat, sc xs (i + 1) = (r : Int) := ⟨(sc xs (i + 1)).toNat, by omega⟩
    have hr9 : r < 3 := by omega
    refine x_aload_n (q := 794) E dL_law_793 1 rfl rfl ?_
    refine x_aload_n (q := 795) E dL_law_794 0 rfl rfl ?_
    refine x_iload_n (q := 796) E dL_law_795 3 rfl rfl ?_
    refine x_iconst (q := 797) E dL_law_796 rfl ?_
    refine x_iadd (q := 798) E dL_law_797 rfl ?_
    refine x_sld (q := 799) E hX hbl hbA (by omega) (by omega) (by omega) dL_law_798 rfl ?_
    refine x_ti hr ?_
    refine x_aload_n (q := 800) E dL_law_799 0 rfl rfl ?_
    refine x_iload_n (q := 801) E dL_law_800 3 rfl rfl ?_
    refine x_iconst (q := 802) E dL_law_801 rfl ?_
    refine x_iadd (q := 803) E dL_law_802 rfl ?_
    refine x_sld (q := 804) E hX hbl hbA (by omega) (by omega) (by omega) dL_law_803 rfl ?_
    refine x_aload_n (q := 805) E dL_law_804 0 rfl rfl ?_
    refine x_iload_n (q := 806) E dL_law_805 3 rfl rfl ?_
    refine x_iconst (q := 807) E dL_law_806 rfl ?_
    refine x_iadd (q := 808) E dL_law_807 rfl ?_
    refine x_sld (q := 809) E hX hbl hbA (by omega) (by omega) (by omega) dL_law_808 rfl ?_
    refine x_pLi (q := 812) (n := 3) (As := [.int (ii ((r : Int))), .int (ii (sc xs (i + 2))), .int (ii (sc xs (i + 3)))]) (r := []) E (c_X5_find l D T ad hN s1 r hr9 (sc xs (i + 2)) (sc_b xs (i + 2)) (sc xs (i + 3)) (sc_b xs (i + 3)) (by omega) a hC) gL_law_X5_find rfl rfl rfl (by decide +kernel) ⟨Nat.le_of_ble_eq_true rfl, Nat.le_of_ble_eq_true rfl⟩ 0 rfl rfl rfl rfl (Nat.le_of_ble_eq_true rfl) (fun q hq => E.2.2.2.2.2.2.2.2.2.1 q (List.mem_append_left _ hq)) hdj dL_law_809 rfl (fun z1 t1 q1 => ?_)
    refine x_aload_n (q := 813) E dL_law_812 2 rfl rfl ?_
    refine x_aload_n (q := 814) E dL_law_813 0 rfl rfl ?_
    refine x_iload_n (q := 815) E dL_law_814 3 rfl rfl ?_
    refine x_iconst (q := 816) E dL_law_815 rfl ?_
    refine x_iadd (q := 817) E dL_law_816 rfl ?_
    refine x_sld (q := 818) E hX hbl hbA (by omega) (by omega) (by omega) dL_law_817 rfl ?_
    refine x_ti hr ?_
    refine x_aload_n (q := 819) E dL_law_818 0 rfl rfl ?_
    refine x_iload_n (q := 820) E dL_law_819 3 rfl rfl ?_
    refine x_iconst (q := 821) E dL_law_820 rfl ?_
    refine x_iadd (q := 822) E dL_law_821 rfl ?_
    refine x_sld (q := 823) E hX hbl hbA (by omega) (by omega) (by omega) dL_law_822 rfl ?_
    refine x_aload_n (q := 824) E dL_law_823 0 rfl rfl ?_
    refine x_iload_n (q := 825) E dL_law_824 3 rfl rfl ?_
    refine x_iconst (q := 826) E dL_law_825 rfl ?_
    refine x_iadd (q := 827) E dL_law_826 rfl ?_
    refine x_sld (q := 828) E hX hbl hbA (by omega) (by omega) (by omega) dL_law_827 rfl ?_
    refine x_pRi (q := 831) (n := 3) (As := [.int (ii ((r : Int))), .int (ii (sc xs (i + 2))), .int (ii (sc xs (i + 3)))]) (r := [.int (ii z1)]) E (c_X6_find l D T ad2 hM s2 r hr9 (sc xs (i + 2)) (sc_b xs (i + 2)) (sc xs (i + 3)) (sc_b xs (i + 3)) (by omega) a hI) gL_law_X6_find rfl rfl rfl (by decide +kernel) ⟨Nat.le_of_ble_eq_true rfl, Nat.le_of_ble_eq_true rfl⟩ 0 rfl rfl rfl rfl (Nat.le_of_ble_eq_true rfl) (fun q hq => E.2.2.2.2.2.2.2.2.2.1 q (List.mem_append_right _ hq)) hdj dL_law_828 rfl (fun z2 t2 q2 => ?_)
    obtain ⟨e1, hC1⟩ := q1
    obtain ⟨e2, hI1⟩ := q2
    subst e1
    subst e2
    refine x_same (tgt := 916) E dL_law_831 (by decide) ?_
    exact kk _ _ _ hC1 hI1
  · refine x_aload_n (q := 794) E dL_law_793 1 rfl rfl ?_
    refine x_aload_n (q := 795) E dL_law_794 0 rfl rfl ?_
    refine x_iload_n (q := 796) E dL_law_795 3 rfl rfl ?_
    refine x_iconst (q := 797) E dL_law_796 rfl ?_
    refine x_iadd (q := 798) E dL_law_797 rfl ?_
    refine x_sld (q := 799) E hX hbl hbA (by omega) (by omega) (by omega) dL_law_798 rfl ?_
    refine x_aload_n (q := 800) E dL_law_799 0 rfl rfl ?_
    refine x_iload_n (q := 801) E dL_law_800 3 rfl rfl ?_
    refine x_iconst (q := 802) E dL_law_801 rfl ?_
    refine x_iadd (q := 803) E dL_law_802 rfl ?_
    refine x_sld (q := 804) E hX hbl hbA (by omega) (by omega) (by omega) dL_law_803 rfl ?_
    refine x_aload_n (q := 805) E dL_law_804 0 rfl rfl ?_
    refine x_iload_n (q := 806) E dL_law_805 3 rfl rfl ?_
    refine x_iconst (q := 807) E dL_law_806 rfl ?_
    refine x_iadd (q := 808) E dL_law_807 rfl ?_
    refine x_sld (q := 809) E hX hbl hbA (by omega) (by omega) (by omega) dL_law_808 rfl ?_
    refine x_pLi (q := 812) (n := 3) (As := [.int (ii (sc xs (i + 1))), .int (ii (sc xs (i + 2))), .int (ii (sc xs (i + 3)))]) (r := []) E (c_X5_find_n l D T ad hN s1 (sc xs (i + 1)) (sc_b xs (i + 1)) (sc xs (i + 2)) (sc_b xs (i + 2)) (sc xs (i + 3)) (sc_b xs (i + 3)) (by omega) a hC) gL_law_X5_find rfl rfl rfl (by decide +kernel) ⟨Nat.le_of_ble_eq_true rfl, Nat.le_of_ble_eq_true rfl⟩ 0 rfl rfl rfl rfl (Nat.le_of_ble_eq_true rfl) (fun q hq => E.2.2.2.2.2.2.2.2.2.1 q (List.mem_append_left _ hq)) hdj dL_law_809 rfl (fun z1 t1 q1 => ?_)
    refine x_aload_n (q := 813) E dL_law_812 2 rfl rfl ?_
    refine x_aload_n (q := 814) E dL_law_813 0 rfl rfl ?_
    refine x_iload_n (q := 815) E dL_law_814 3 rfl rfl ?_
    refine x_iconst (q := 816) E dL_law_815 rfl ?_
    refine x_iadd (q := 817) E dL_law_816 rfl ?_
    refine x_sld (q := 818) E hX hbl hbA (by omega) (by omega) (by omega) dL_law_817 rfl ?_
    refine x_aload_n (q := 819) E dL_law_818 0 rfl rfl ?_
    refine x_iload_n (q := 820) E dL_law_819 3 rfl rfl ?_
    refine x_iconst (q := 821) E dL_law_820 rfl ?_
    refine x_iadd (q := 822) E dL_law_821 rfl ?_
    refine x_sld (q := 823) E hX hbl hbA (by omega) (by omega) (by omega) dL_law_822 rfl ?_
    refine x_aload_n (q := 824) E dL_law_823 0 rfl rfl ?_
    refine x_iload_n (q := 825) E dL_law_824 3 rfl rfl ?_
    refine x_iconst (q := 826) E dL_law_825 rfl ?_
    refine x_iadd (q := 827) E dL_law_826 rfl ?_
    refine x_sld (q := 828) E hX hbl hbA (by omega) (by omega) (by omega) dL_law_827 rfl ?_
    refine x_pRi (q := 831) (n := 3) (As := [.int (ii (sc xs (i + 1))), .int (ii (sc xs (i + 2))), .int (ii (sc xs (i + 3)))]) (r := [.int (ii z1)]) E (c_X6_find_n l D T ad2 hM s2 (sc xs (i + 1)) (sc_b xs (i + 1)) (sc xs (i + 2)) (sc_b xs (i + 2)) (sc xs (i + 3)) (sc_b xs (i + 3)) (by omega) a hI) gL_law_X6_find rfl rfl rfl (by decide +kernel) ⟨Nat.le_of_ble_eq_true rfl, Nat.le_of_ble_eq_true rfl⟩ 0 rfl rfl rfl rfl (Nat.le_of_ble_eq_true rfl) (fun q hq => E.2.2.2.2.2.2.2.2.2.1 q (List.mem_append_right _ hq)) hdj dL_law_828 rfl (fun z2 t2 q2 => ?_)
    obtain ⟨e1, hC1⟩ := q1
    obtain ⟨e2, hI1⟩ := q2
    subst e1
    subst e2
    refine x_same (tgt := 916) E dL_law_831 (by decide) ?_
    exact kk _ _ _ hC1 hI1

set_option maxRecDepth 100000 in
set_option maxHeartbeats 4000000 in
theorem law_unlike {p : Program} {l : Launch} {e : Env} {s : State} {m : MethodId} {below : List Frame} {meth : Method} {c : Code} {D : va_G} {T : Nat → ClassId} {ad ad2 : Nat → Nat} {A : Nat → Prop} {b L : Nat} {xs : Nat → Int32} (E : EN room_1 46 614819 p s m #[Value.ref b] meth c code 4 ret wsL_law RL D (tyX T) (WL T ad ad2) (alX ad ++ alM ad2) A) (hX : va_X b L xs s s.heap) (hbl : b < s.heap.size) (hbA : ¬ A b) (hL : L ≤ 3584) (hN : ∀ i j, i < 33 → j < 33 → ad i = ad j → i = j) (hM : ∀ i j, i < 13 → j < 13 → ad2 i = ad2 j → i = j) (hdj : ∀ i j, i < 33 → j < 13 → ad i ≠ ad2 j) {a : AB_} {s1 s2 : St_} {i : Int} (hi : 0 ≤ i ∧ i + 7 ≤ (L : Int)) (hC : CI s1 a) (hI : MI s2 a) (kk : ∀ (a1 : AB_) (t1 t2 : St_), CI t1 a1 → MI t2 a1 → XJ p l e room_1 s m #[Value.ref b] below meth c D (WL T ad ad2) A 4 (lw_Z below #[Value.ref b] s) 46 614819 (t1, t2) 916 [(0, .ref b), (1, .ref (ad 0)), (2, .ref (ad2 0)), (3, .int (ii i))] []) : XJ p l e room_1 s m #[Value.ref b] below meth c D (WL T ad ad2) A 4 (lw_Z below #[Value.ref b] s) 46 614819 (s1, s2) 836 [(0, .ref b), (1, .ref (ad 0)), (2, .ref (ad2 0)), (3, .int (ii i))] [] := by
  have k1 := hC.1
  have k2 := hI.1
  have k3 := hC.2.2.2.2.2.2.2.1
  rcases (show (0 ≤ sc xs (i + 1) ∧ sc xs (i + 1) < s1.1 2) ∨ (sc xs (i + 1) < 0 ∨ s1.1 2 ≤ sc xs (i + 1)) by omega) with c9 | c9
  · obtain ⟨r, hr⟩ : ∃ r : Nat, sc xs (i + 1) = (r : Int) := ⟨(sc xs (i + 1)).toNat, by omega⟩
    have hr9 : r < 3 := by omega
    refine x_aload_n (q := 837) E dL_law_836 1 rfl rfl ?_
    refine x_aload_n (q := 838) E dL_law_837 0 rfl rfl ?_
    refine x_iload_n (q := 839) E dL_law_838 3 rfl rfl ?_
    refine x_iconst (q := 840) E dL_law_839 rfl ?_
    refine x_iadd (q := 841) E dL_law_840 rfl ?_
    refine x_sld (q := 842) E hX hbl hbA (by omega) (by omega) (by omega) dL_law_841 rfl ?_
    refine x_ti hr ?_
    refine x_aload_n (q := 843) E dL_law_842 0 rfl rfl ?_
    refine x_iload_n (q := 844) E dL_law_843 3 rfl rfl ?_
    refine x_iconst (q := 845) E dL_law_844 rfl ?_
    refine x_iadd (q := 846) E dL_law_845 rfl ?_
    refine x_sld (q := 847) E hX hbl hbA (by omega) (by omega) (by omega) dL_law_846 rfl ?_
    refine x_aload_n (q := 848) E dL_law_847 0 rfl rfl ?_
    refine x_iload_n (q := 849) E dL_law_848 3 rfl rfl ?_
    refine x_iconst (q := 850) E dL_law_849 rfl ?_
    refine x_iadd (q := 851) E dL_law_850 rfl ?_
    refine x_sld (q := 852) E hX hbl hbA (by omega) (by omega) (by omega) dL_law_851 rfl ?_
    refine x_pLi (q := 855) (n := 3) (As := [.int (ii ((r : Int))), .int (ii (sc xs (i + 2))), .int (ii (sc xs (i + 3)))]) (r := []) E (c_X5_unlike l D T ad hN s1 r hr9 (sc xs (i + 2)) (sc_b xs (i + 2)) (sc xs (i + 3)) (sc_b xs (i + 3)) (by omega) a hC) gL_law_X5_unlike rfl rfl rfl (by decide +kernel) ⟨Nat.le_of_ble_eq_true rfl, Nat.le_of_ble_eq_true rfl⟩ 0 rfl rfl rfl rfl (Nat.le_of_ble_eq_true rfl) (fun q hq => E.2.2.2.2.2.2.2.2.2.1 q (List.mem_append_left _ hq)) hdj dL_law_852 rfl (fun z1 t1 q1 => ?_)
    refine x_aload_n (q := 856) E dL_law_855 2 rfl rfl ?_
    refine x_aload_n (q := 857) E dL_law_856 0 rfl rfl ?_
    refine x_iload_n (q := 858) E dL_law_857 3 rfl rfl ?_
    refine x_iconst (q := 859) E dL_law_858 rfl ?_
    refine x_iadd (q := 860) E dL_law_859 rfl ?_
    refine x_sld (q := 861) E hX hbl hbA (by omega) (by omega) (by omega) dL_law_860 rfl ?_
    refine x_ti hr ?_
    refine x_aload_n (q := 862) E dL_law_861 0 rfl rfl ?_
    refine x_iload_n (q := 863) E dL_law_862 3 rfl rfl ?_
    refine x_iconst (q := 864) E dL_law_863 rfl ?_
    refine x_iadd (q := 865) E dL_law_864 rfl ?_
    refine x_sld (q := 866) E hX hbl hbA (by omega) (by omega) (by omega) dL_law_865 rfl ?_
    refine x_aload_n (q := 867) E dL_law_866 0 rfl rfl ?_
    refine x_iload_n (q := 868) E dL_law_867 3 rfl rfl ?_
    refine x_iconst (q := 869) E dL_law_868 rfl ?_
    refine x_iadd (q := 870) E dL_law_869 rfl ?_
    refine x_sld (q := 871) E hX hbl hbA (by omega) (by omega) (by omega) dL_law_870 rfl ?_
    refine x_pRi (q := 874) (n := 3) (As := [.int (ii ((r : Int))), .int (ii (sc xs (i + 2))), .int (ii (sc xs (i + 3)))]) (r := [.int (ii z1)]) E (c_X6_unlike l D T ad2 hM s2 r hr9 (sc xs (i + 2)) (sc_b xs (i + 2)) (sc xs (i + 3)) (sc_b xs (i + 3)) (by omega) a hI) gL_law_X6_unlike rfl rfl rfl (by decide +kernel) ⟨Nat.le_of_ble_eq_true rfl, Nat.le_of_ble_eq_true rfl⟩ 0 rfl rfl rfl rfl (Nat.le_of_ble_eq_true rfl) (fun q hq => E.2.2.2.2.2.2.2.2.2.1 q (List.mem_append_right _ hq)) hdj dL_law_871 rfl (fun z2 t2 q2 => ?_)
    obtain ⟨e1, hC1⟩ := q1
    obtain ⟨e2, hI1⟩ := q2
    subst e1
    subst e2
    refine x_same (tgt := 916) E dL_law_874 (by decide) ?_
    exact kk _ _ _ hC1 hI1
  · refine x_aload_n (q := 837) E dL_law_836 1 rfl rfl ?_
    refine x_aload_n (q := 838) E dL_law_837 0 rfl rfl ?_
    refine x_iload_n (q := 839) E dL_law_838 3 rfl rfl ?_
    refine x_iconst (q := 840) E dL_law_839 rfl ?_
    refine x_iadd (q := 841) E dL_law_840 rfl ?_
    refine x_sld (q := 842) E hX hbl hbA (by omega) (by omega) (by omega) dL_law_841 rfl ?_
    refine x_aload_n (q := 843) E dL_law_842 0 rfl rfl ?_
    refine x_iload_n (q := 844) E dL_law_843 3 rfl rfl ?_
    refine x_iconst (q := 845) E dL_law_844 rfl ?_
    refine x_iadd (q := 846) E dL_law_845 rfl ?_
    refine x_sld (q := 847) E hX hbl hbA (by omega) (by omega) (by omega) dL_law_846 rfl ?_
    refine x_aload_n (q := 848) E dL_law_847 0 rfl rfl ?_
    refine x_iload_n (q := 849) E dL_law_848 3 rfl rfl ?_
    refine x_iconst (q := 850) E dL_law_849 rfl ?_
    refine x_iadd (q := 851) E dL_law_850 rfl ?_
    refine x_sld (q := 852) E hX hbl hbA (by omega) (by omega) (by omega) dL_law_851 rfl ?_
    refine x_pLi (q := 855) (n := 3) (As := [.int (ii (sc xs (i + 1))), .int (ii (sc xs (i + 2))), .int (ii (sc xs (i + 3)))]) (r := []) E (c_X5_unlike_n l D T ad hN s1 (sc xs (i + 1)) (sc_b xs (i + 1)) (sc xs (i + 2)) (sc_b xs (i + 2)) (sc xs (i + 3)) (sc_b xs (i + 3)) (by omega) a hC) gL_law_X5_unlike rfl rfl rfl (by decide +kernel) ⟨Nat.le_of_ble_eq_true rfl, Nat.le_of_ble_eq_true rfl⟩ 0 rfl rfl rfl rfl (Nat.le_of_ble_eq_true rfl) (fun q hq => E.2.2.2.2.2.2.2.2.2.1 q (List.mem_append_left _ hq)) hdj dL_law_852 rfl (fun z1 t1 q1 => ?_)
    refine x_aload_n (q := 856) E dL_law_855 2 rfl rfl ?_
    refine x_aload_n (q := 857) E dL_law_856 0 rfl rfl ?_
    refine x_iload_n (q := 858) E dL_law_857 3 rfl rfl ?_
    refine x_iconst (q := 859) E dL_law_858 rfl ?_
    refine x_iadd (q := 860) E dL_law_859 rfl ?_
    refine x_sld (q := 861) E hX hbl hbA (by omega) (by omega) (by omega) dL_law_860 rfl ?_
    refine x_aload_n (q := 862) E dL_law_861 0 rfl rfl ?_
    refine x_iload_n (q := 863) E dL_law_862 3 rfl rfl ?_
    refine x_iconst (q := 864) E dL_law_863 rfl ?_
    refine x_iadd (q := 865) E dL_law_864 rfl ?_
    refine x_sld (q := 866) E hX hbl hbA (by omega) (by omega) (by omega) dL_law_865 rfl ?_
    refine x_aload_n (q := 867) E dL_law_866 0 rfl rfl ?_
    refine x_iload_n (q := 868) E dL_law_867 3 rfl rfl ?_
    refine x_iconst (q := 869) E dL_law_868 rfl ?_
    refine x_iadd (q := 870) E dL_law_869 rfl ?_
    refine x_sld (q := 871) E hX hbl hbA (by omega) (by omega) (by omega) dL_law_870 rfl ?_
    refine x_pRi (q := 874) (n := 3) (As := [.int (ii (sc xs (i + 1))), .int (ii (sc xs (i + 2))), .int (ii (sc xs (i + 3)))]) (r := [.int (ii z1)]) E (c_X6_unlike_n l D T ad2 hM s2 (sc xs (i + 1)) (sc_b xs (i + 1)) (sc xs (i + 2)) (sc_b xs (i + 2)) (sc xs (i + 3)) (sc_b xs (i + 3)) (by omega) a hI) gL_law_X6_unlike rfl rfl rfl (by decide +kernel) ⟨Nat.le_of_ble_eq_true rfl, Nat.le_of_ble_eq_true rfl⟩ 0 rfl rfl rfl rfl (Nat.le_of_ble_eq_true rfl) (fun q hq => E.2.2.2.2.2.2.2.2.2.1 q (List.mem_append_right _ hq)) hdj dL_law_871 rfl (fun z2 t2 q2 => ?_)
    obtain ⟨e1, hC1⟩ := q1
    obtain ⟨e2, hI1⟩ := q2
    subst e1
    subst e2
    refine x_same (tgt := 916) E dL_law_874 (by decide) ?_
    exact kk _ _ _ hC1 hI1

set_option maxRecDepth 100000 in
set_option maxHeartbeats 4000000 in
theorem law_told {p : Program} {l : Launch} {e : Env} {s : State} {m : MethodId} {below : List Frame} {meth : Method} {c : Code} {D : va_G} {T : Nat → ClassId} {ad ad2 : Nat → Nat} {A : Nat → Prop} {b L : Nat} {xs : Nat → Int32} (E : EN room_1 46 614819 p s m #[Value.ref b] meth c code 4 ret wsL_law RL D (tyX T) (WL T ad ad2) (alX ad ++ alM ad2) A) (hX : va_X b L xs s s.heap) (hbl : b < s.heap.size) (hbA : ¬ A b) (hL : L ≤ 3584) (hN : ∀ i j, i < 33 → j < 33 → ad i = ad j → i = j) (hM : ∀ i j, i < 13 → j < 13 → ad2 i = ad2 j → i = j) (hdj : ∀ i j, i < 33 → j < 13 → ad i ≠ ad2 j) {a : AB_} {s1 s2 : St_} {i : Int} (hi : 0 ≤ i ∧ i + 7 ≤ (L : Int)) (hC : CI s1 a) (hI : MI s2 a) (kk : ∀ (a1 : AB_) (t1 t2 : St_), CI t1 a1 → MI t2 a1 → XJ p l e room_1 s m #[Value.ref b] below meth c D (WL T ad ad2) A 4 (lw_Z below #[Value.ref b] s) 46 614819 (t1, t2) 916 [(0, .ref b), (1, .ref (ad 0)), (2, .ref (ad2 0)), (3, .int (ii i))] []) : XJ p l e room_1 s m #[Value.ref b] below meth c D (WL T ad ad2) A 4 (lw_Z below #[Value.ref b] s) 46 614819 (s1, s2) 879 [(0, .ref b), (1, .ref (ad 0)), (2, .ref (ad2 0)), (3, .int (ii i))] [] := by
  have k1 := hC.1
  have k2 := hI.1
  refine x_aload_n (q := 880) E dL_law_879 1 rfl rfl ?_
  refine x_aload_n (q := 881) E dL_law_880 0 rfl rfl ?_
  refine x_iload_n (q := 882) E dL_law_881 3 rfl rfl ?_
  refine x_iconst (q := 883) E dL_law_882 rfl ?_
  refine x_iadd (q := 884) E dL_law_883 rfl ?_
  refine x_sld (q := 885) E hX hbl hbA (by omega) (by omega) (by omega) dL_law_884 rfl ?_
  refine x_pLi (q := 888) (n := 1) (As := [.int (ii (sc xs (i + 1)))]) (r := []) E (c_X5_told l D T ad hN s1 (sc xs (i + 1)) (sc_b xs (i + 1)) a hC) gL_law_X5_told rfl rfl rfl (by decide +kernel) ⟨Nat.le_of_ble_eq_true rfl, Nat.le_of_ble_eq_true rfl⟩ 0 rfl rfl rfl rfl (Nat.le_of_ble_eq_true rfl) (fun q hq => E.2.2.2.2.2.2.2.2.2.1 q (List.mem_append_left _ hq)) hdj dL_law_885 rfl (fun z1 t1 q1 => ?_)
  refine x_aload_n (q := 889) E dL_law_888 2 rfl rfl ?_
  refine x_aload_n (q := 890) E dL_law_889 0 rfl rfl ?_
  refine x_iload_n (q := 891) E dL_law_890 3 rfl rfl ?_
  refine x_iconst (q := 892) E dL_law_891 rfl ?_
  refine x_iadd (q := 893) E dL_law_892 rfl ?_
  refine x_sld (q := 894) E hX hbl hbA (by omega) (by omega) (by omega) dL_law_893 rfl ?_
  refine x_pRi (q := 897) (n := 1) (As := [.int (ii (sc xs (i + 1)))]) (r := [.int (ii z1)]) E (c_X6_told l D T ad2 hM s2 (sc xs (i + 1)) (sc_b xs (i + 1)) a hI) gL_law_X6_told rfl rfl rfl (by decide +kernel) ⟨Nat.le_of_ble_eq_true rfl, Nat.le_of_ble_eq_true rfl⟩ 0 rfl rfl rfl rfl (Nat.le_of_ble_eq_true rfl) (fun q hq => E.2.2.2.2.2.2.2.2.2.1 q (List.mem_append_right _ hq)) hdj dL_law_894 rfl (fun z2 t2 q2 => ?_)
  obtain ⟨e1, hC1⟩ := q1
  obtain ⟨e2, hI1⟩ := q2
  subst e1
  subst e2
  refine x_same (tgt := 916) E dL_law_897 (by decide) ?_
  exact kk _ _ _ hC1 hI1

set_option maxRecDepth 100000 in
set_option maxHeartbeats 4000000 in
theorem law_digest {p : Program} {l : Launch} {e : Env} {s : State} {m : MethodId} {below : List Frame} {meth : Method} {c : Code} {D : va_G} {T : Nat → ClassId} {ad ad2 : Nat → Nat} {A : Nat → Prop} {b L : Nat} {xs : Nat → Int32} (E : EN room_1 46 614819 p s m #[Value.ref b] meth c code 4 ret wsL_law RL D (tyX T) (WL T ad ad2) (alX ad ++ alM ad2) A) (hX : va_X b L xs s s.heap) (hbl : b < s.heap.size) (hbA : ¬ A b) (hL : L ≤ 3584) (hN : ∀ i j, i < 33 → j < 33 → ad i = ad j → i = j) (hM : ∀ i j, i < 13 → j < 13 → ad2 i = ad2 j → i = j) (hdj : ∀ i j, i < 33 → j < 13 → ad i ≠ ad2 j) {a : AB_} {s1 s2 : St_} {i : Int} (hi : 0 ≤ i ∧ i + 7 ≤ (L : Int)) (hC : CI s1 a) (hI : MI s2 a) (kk : ∀ (a1 : AB_) (t1 t2 : St_), CI t1 a1 → MI t2 a1 → XJ p l e room_1 s m #[Value.ref b] below meth c D (WL T ad ad2) A 4 (lw_Z below #[Value.ref b] s) 46 614819 (t1, t2) 916 [(0, .ref b), (1, .ref (ad 0)), (2, .ref (ad2 0)), (3, .int (ii i))] []) : XJ p l e room_1 s m #[Value.ref b] below meth c D (WL T ad ad2) A 4 (lw_Z below #[Value.ref b] s) 46 614819 (s1, s2) 902 [(0, .ref b), (1, .ref (ad 0)), (2, .ref (ad2 0)), (3, .int (ii i))] [] := by
  have k1 := hC.1
  have k2 := hI.1
  refine x_aload_n (q := 903) E dL_law_902 1 rfl rfl ?_
  refine x_pLl (q := 906) (n := 0) (As := []) (r := []) E (c_X5_digest l D T ad hN s1 a hC) gL_law_X5_digest rfl rfl rfl (by decide +kernel) ⟨Nat.le_of_ble_eq_true rfl, Nat.le_of_ble_eq_true rfl⟩ 0 rfl rfl rfl rfl (Nat.le_of_ble_eq_true rfl) (fun q hq => E.2.2.2.2.2.2.2.2.2.1 q (List.mem_append_left _ hq)) hdj dL_law_903 rfl (fun z1 t1 q1 => ?_)
  refine x_aload_n (q := 907) E dL_law_906 2 rfl rfl ?_
  refine x_pRl (q := 910) (n := 0) (As := []) (r := [.long (jj z1)]) E (c_X6_digest l D T ad2 hM s2 a hI) gL_law_X6_digest rfl rfl rfl (by decide +kernel) ⟨Nat.le_of_ble_eq_true rfl, Nat.le_of_ble_eq_true rfl⟩ 0 rfl rfl rfl rfl (Nat.le_of_ble_eq_true rfl) (fun q hq => E.2.2.2.2.2.2.2.2.2.1 q (List.mem_append_right _ hq)) hdj dL_law_907 rfl (fun z2 t2 q2 => ?_)
  obtain ⟨e1, hC1⟩ := q1
  obtain ⟨e2, hI1⟩ := q2
  subst e1
  subst e2
  refine x_lsame (q := 911) E dL_law_910 rfl ?_
  refine x_z0 (tgt := 916) E dL_law_911 (by decide) ?_
  exact kk _ _ _ hC1 hI1
