def c_L_0 (s9 : Int × Mm) (sl : Int) (sc : Int → Int) : Option ((Int × Mm) ⊕ ((Int × Mm) ⊕ (Mm))) := gd (0 ≤ (w (s9.1 + 1)) ∧ (w (s9.1 + 1)) < sl) (gd (0 ≤ (w (s9.1 + 2)) ∧ (w (s9.1 + 2)) < sl) (gd (0 ≤ (w (s9.1 + 3)) ∧ (w (s9.1 + 3)) < sl) ((if (sc ((w (s9.1 + 3)))) = 0 then some (0) else some (1) : Option (Int)).bind fun (s772 : Int) => (p_L_topic s9.2 11000 (sc ((w (s9.1 + 1)))) (sc ((w (s9.1 + 2)))) s772 15000).bind fun r778 => gd (0 ≤ (w (s9.1 + 1)) ∧ (w (s9.1 + 1)) < sl) (gd (0 ≤ (w (s9.1 + 2)) ∧ (w (s9.1 + 2)) < sl) (gd (0 ≤ (w (s9.1 + 3)) ∧ (w (s9.1 + 3)) < sl) ((if (sc ((w (s9.1 + 3)))) = 0 then some (0) else some (1) : Option (Int)).bind fun (s782 : Int) => (p_X11_topic r778.2 12000 (sc ((w (s9.1 + 1)))) (sc ((w (s9.1 + 2)))) s782).bind fun r788 => (p_X11_thrown r788.2 12000).bind fun r789 => if r789 = r778.1 then if r778.1 = 0 then gd (aok 15000 0) (if (lcp (rd r788.2 15000 0) r788.1) = 0 then some (.inl ((w (s9.1 + 6)), r788.2)) else some (.inr (.inl (0, r788.2)))) else some (.inl ((w (s9.1 + 6)), r788.2)) else some (.inr (.inl (0, r788.2)))))))))
def c_L_1 (s9 : Int × Mm) (sl : Int) (sc : Int → Int) : Option ((Int × Mm) ⊕ ((Int × Mm) ⊕ (Mm))) := gd (0 ≤ (w (s9.1 + 1)) ∧ (w (s9.1 + 1)) < sl) (gd (0 ≤ (w (s9.1 + 2)) ∧ (w (s9.1 + 2)) < sl) (gd (0 ≤ (w (s9.1 + 3)) ∧ (w (s9.1 + 3)) < sl) ((p_L_retain s9.2 11000 (sc ((w (s9.1 + 1)))) (sc ((w (s9.1 + 2)))) (sc ((w (s9.1 + 3)))) 15000).bind fun r802 => gd (0 ≤ (w (s9.1 + 1)) ∧ (w (s9.1 + 1)) < sl) (gd (0 ≤ (w (s9.1 + 2)) ∧ (w (s9.1 + 2)) < sl) (gd (0 ≤ (w (s9.1 + 3)) ∧ (w (s9.1 + 3)) < sl) ((p_X11_retain r802.2 12000 (sc ((w (s9.1 + 1)))) (sc ((w (s9.1 + 2)))) (sc ((w (s9.1 + 3))))).bind fun r806 => (p_X11_thrown r806.2 12000).bind fun r807 => if r807 = r802.1 then if r802.1 = 0 then gd (aok 15000 0) (if (lcp (rd r806.2 15000 0) r806.1) = 0 then some (.inl ((w (s9.1 + 6)), r806.2)) else some (.inr (.inl (0, r806.2)))) else some (.inl ((w (s9.1 + 6)), r806.2)) else some (.inr (.inl (0, r806.2)))))))))
def c_L_2 (s9 : Int × Mm) (sl : Int) (sc : Int → Int) : Option ((Int × Mm) ⊕ ((Int × Mm) ⊕ (Mm))) := gd (0 ≤ (w (s9.1 + 1)) ∧ (w (s9.1 + 1)) < sl) ((p_L_compact s9.2 11000 (sc ((w (s9.1 + 1)))) 15000).bind fun r818 => gd (0 ≤ (w (s9.1 + 1)) ∧ (w (s9.1 + 1)) < sl) ((p_X11_compact r818.2 12000 (sc ((w (s9.1 + 1))))).bind fun r820 => (p_X11_thrown r820.2 12000).bind fun r821 => if r821 = r818.1 then if r818.1 = 0 then gd (aok 15000 0) (if (lcp (rd r820.2 15000 0) r820.1) = 0 then some (.inl ((w (s9.1 + 6)), r820.2)) else some (.inr (.inl (0, r820.2)))) else some (.inl ((w (s9.1 + 6)), r820.2)) else some (.inr (.inl (0, r820.2)))))
def c_L_3 (s9 : Int × Mm) (sl : Int) (sc : Int → Int) : Option ((Int × Mm) ⊕ ((Int × Mm) ⊕ (Mm))) := gd (0 ≤ (w (s9.1 + 1)) ∧ (w (s9.1 + 1)) < sl) ((p_L_fail s9.2 11000 (sc ((w (s9.1 + 1)))) 15000).bind fun r832 => gd (0 ≤ (w (s9.1 + 1)) ∧ (w (s9.1 + 1)) < sl) ((p_X11_fail r832.2 12000 (sc ((w (s9.1 + 1))))).bind fun r834 => (p_X11_thrown r834.2 12000).bind fun r835 => if r835 = r832.1 then if r832.1 = 0 then gd (aok 15000 0) (if (lcp (rd r834.2 15000 0) r834.1) = 0 then some (.inl ((w (s9.1 + 6)), r834.2)) else some (.inr (.inl (0, r834.2)))) else some (.inl ((w (s9.1 + 6)), r834.2)) else some (.inr (.inl (0, r834.2)))))
def c_L_4 (s9 : Int × Mm) (sl : Int) (sc : Int → Int) : Option ((Int × Mm) ⊕ ((Int × Mm) ⊕ (Mm))) := gd (0 ≤ (w (s9.1 + 1)) ∧ (w (s9.1 + 1)) < sl) ((p_L_restore s9.2 11000 (sc ((w (s9.1 + 1)))) 15000).bind fun r846 => gd (0 ≤ (w (s9.1 + 1)) ∧ (w (s9.1 + 1)) < sl) ((p_X11_restore r846.2 12000 (sc ((w (s9.1 + 1))))).bind fun r848 => (p_X11_thrown r848.2 12000).bind fun r849 => if r849 = r846.1 then if r846.1 = 0 then gd (aok 15000 0) (if (lcp (rd r848.2 15000 0) r848.1) = 0 then some (.inl ((w (s9.1 + 6)), r848.2)) else some (.inr (.inl (0, r848.2)))) else some (.inl ((w (s9.1 + 6)), r848.2)) else some (.inr (.inl (0, r848.2)))))
def c_L_5 (s9 : Int × Mm) (sl : Int) (sc : Int → Int) : Option ((Int × Mm) ⊕ ((Int × Mm) ⊕ (Mm))) := gd (0 ≤ (w (s9.1 + 1)) ∧ (w (s9.1 + 1)) < sl) ((p_L_fetch s9.2 11000 (sc ((w (s9.1 + 1)))) 15000).bind fun r860 => gd (0 ≤ (w (s9.1 + 1)) ∧ (w (s9.1 + 1)) < sl) ((p_X11_fetch r860.2 12000 (sc ((w (s9.1 + 1))))).bind fun r862 => (p_X11_thrown r862.2 12000).bind fun r863 => if r863 = r860.1 then if r860.1 = 0 then gd (aok 15000 0) (if (lcp (rd r862.2 15000 0) r862.1) = 0 then some (.inl ((w (s9.1 + 6)), r862.2)) else some (.inr (.inl (0, r862.2)))) else some (.inl ((w (s9.1 + 6)), r862.2)) else some (.inr (.inl (0, r862.2)))))
def c_L_6 (s9 : Int × Mm) (sl : Int) (sc : Int → Int) : Option ((Int × Mm) ⊕ ((Int × Mm) ⊕ (Mm))) := gd (0 ≤ (w (s9.1 + 1)) ∧ (w (s9.1 + 1)) < sl) ((p_L_speed s9.2 11000 (sc ((w (s9.1 + 1)))) 15000).bind fun r874 => gd (0 ≤ (w (s9.1 + 1)) ∧ (w (s9.1 + 1)) < sl) ((p_X11_speed r874.2 12000 (sc ((w (s9.1 + 1))))).bind fun r876 => (p_X11_thrown r876.2 12000).bind fun r877 => if r877 = r874.1 then if r874.1 = 0 then gd (aok 15000 0) (if (lcp (rd r876.2 15000 0) r876.1) = 0 then some (.inl ((w (s9.1 + 6)), r876.2)) else some (.inr (.inl (0, r876.2)))) else some (.inl ((w (s9.1 + 6)), r876.2)) else some (.inr (.inl (0, r876.2)))))
def c_L_7 (s9 : Int × Mm) (sl : Int) (sc : Int → Int) : Option ((Int × Mm) ⊕ ((Int × Mm) ⊕ (Mm))) := gd (0 ≤ (w (s9.1 + 1)) ∧ (w (s9.1 + 1)) < sl) ((p_L_tick s9.2 11000 (sc ((w (s9.1 + 1)))) 15000).bind fun r888 => gd (0 ≤ (w (s9.1 + 1)) ∧ (w (s9.1 + 1)) < sl) ((p_X11_tick r888.2 12000 (sc ((w (s9.1 + 1))))).bind fun r890 => (p_X11_thrown r890.2 12000).bind fun r891 => if r891 = r888.1 then if r888.1 = 0 then gd (aok 15000 0) (if (lcp (rd r890.2 15000 0) r890.1) = 0 then some (.inl ((w (s9.1 + 6)), r890.2)) else some (.inr (.inl (0, r890.2)))) else some (.inl ((w (s9.1 + 6)), r890.2)) else some (.inr (.inl (0, r890.2)))))
def c_L_8 (s9 : Int × Mm) : Option ((Int × Mm) ⊕ ((Int × Mm) ⊕ (Mm))) := (p_L_producer s9.2 11000 15000).bind fun r901 => (p_X11_producer r901.2 12000).bind fun r902 => (p_X11_thrown r902.2 12000).bind fun r903 => if r903 = r901.1 then if r901.1 = 0 then gd (aok 15000 0) (if (lcp (rd r902.2 15000 0) r902.1) = 0 then some (.inl ((w (s9.1 + 6)), r902.2)) else some (.inr (.inl (0, r902.2)))) else some (.inl ((w (s9.1 + 6)), r902.2)) else some (.inr (.inl (0, r902.2)))
def c_L_9 (s9 : Int × Mm) (sl : Int) (sc : Int → Int) : Option ((Int × Mm) ⊕ ((Int × Mm) ⊕ (Mm))) := gd (0 ≤ (w (s9.1 + 1)) ∧ (w (s9.1 + 1)) < sl) (gd (0 ≤ (w (s9.1 + 2)) ∧ (w (s9.1 + 2)) < sl) ((p_L_quota s9.2 11000 (sc ((w (s9.1 + 1)))) (sc ((w (s9.1 + 2)))) 15000).bind fun r915 => gd (0 ≤ (w (s9.1 + 1)) ∧ (w (s9.1 + 1)) < sl) (gd (0 ≤ (w (s9.1 + 2)) ∧ (w (s9.1 + 2)) < sl) ((p_X11_quota r915.2 12000 (sc ((w (s9.1 + 1)))) (sc ((w (s9.1 + 2))))).bind fun r918 => (p_X11_thrown r918.2 12000).bind fun r919 => if r919 = r915.1 then if r915.1 = 0 then gd (aok 15000 0) (if (lcp (rd r918.2 15000 0) r918.1) = 0 then some (.inl ((w (s9.1 + 6)), r918.2)) else some (.inr (.inl (0, r918.2)))) else some (.inl ((w (s9.1 + 6)), r918.2)) else some (.inr (.inl (0, r918.2)))))))
def c_L_10 (s9 : Int × Mm) (sl : Int) (sc : Int → Int) : Option ((Int × Mm) ⊕ ((Int × Mm) ⊕ (Mm))) := gd (0 ≤ (w (s9.1 + 1)) ∧ (w (s9.1 + 1)) < sl) (gd (0 ≤ (w (s9.1 + 2)) ∧ (w (s9.1 + 2)) < sl) (gd (0 ≤ (w (s9.1 + 3)) ∧ (w (s9.1 + 3)) < sl) (gd (0 ≤ (w (s9.1 + 4)) ∧ (w (s9.1 + 4)) < sl) ((p_L_send s9.2 11000 (sc ((w (s9.1 + 1)))) (sc ((w (s9.1 + 2)))) (sc ((w (s9.1 + 3)))) (sc ((w (s9.1 + 4)))) 15000).bind fun r933 => gd (0 ≤ (w (s9.1 + 1)) ∧ (w (s9.1 + 1)) < sl) (gd (0 ≤ (w (s9.1 + 2)) ∧ (w (s9.1 + 2)) < sl) (gd (0 ≤ (w (s9.1 + 3)) ∧ (w (s9.1 + 3)) < sl) (gd (0 ≤ (w (s9.1 + 4)) ∧ (w (s9.1 + 4)) < sl) ((p_X11_send r933.2 12000 (sc ((w (s9.1 + 1)))) (sc ((w (s9.1 + 2)))) (sc ((w (s9.1 + 3)))) (sc ((w (s9.1 + 4))))).bind fun r938 => (p_X11_thrown r938.2 12000).bind fun r939 => if r939 = r933.1 then if r933.1 = 0 then gd (aok 15000 0) (if (lcp (rd r938.2 15000 0) r938.1) = 0 then some (.inl ((w (s9.1 + 6)), r938.2)) else some (.inr (.inl (0, r938.2)))) else some (.inl ((w (s9.1 + 6)), r938.2)) else some (.inr (.inl (0, r938.2)))))))))))
def c_L_11 (s9 : Int × Mm) (sl : Int) (sc : Int → Int) : Option ((Int × Mm) ⊕ ((Int × Mm) ⊕ (Mm))) := gd (0 ≤ (w (s9.1 + 1)) ∧ (w (s9.1 + 1)) < sl) (gd (0 ≤ (w (s9.1 + 2)) ∧ (w (s9.1 + 2)) < sl) (gd (0 ≤ (w (s9.1 + 3)) ∧ (w (s9.1 + 3)) < sl) (gd (0 ≤ (w (s9.1 + 4)) ∧ (w (s9.1 + 4)) < sl) ((p_L_sendSome s9.2 11000 (sc ((w (s9.1 + 1)))) (sc ((w (s9.1 + 2)))) (sc ((w (s9.1 + 3)))) (sc ((w (s9.1 + 4)))) 15000).bind fun r953 => gd (0 ≤ (w (s9.1 + 1)) ∧ (w (s9.1 + 1)) < sl) (gd (0 ≤ (w (s9.1 + 2)) ∧ (w (s9.1 + 2)) < sl) (gd (0 ≤ (w (s9.1 + 3)) ∧ (w (s9.1 + 3)) < sl) (gd (0 ≤ (w (s9.1 + 4)) ∧ (w (s9.1 + 4)) < sl) ((p_X11_sendSome r953.2 12000 (sc ((w (s9.1 + 1)))) (sc ((w (s9.1 + 2)))) (sc ((w (s9.1 + 3)))) (sc ((w (s9.1 + 4))))).bind fun r958 => (p_X11_thrown r958.2 12000).bind fun r959 => if r959 = r953.1 then if r953.1 = 0 then gd (aok 15000 0) (if (lcp (rd r958.2 15000 0) r958.1) = 0 then some (.inl ((w (s9.1 + 6)), r958.2)) else some (.inr (.inl (0, r958.2)))) else some (.inl ((w (s9.1 + 6)), r958.2)) else some (.inr (.inl (0, r958.2)))))))))))
def c_L_12 (s9 : Int × Mm) (sl : Int) (sc : Int → Int) : Option ((Int × Mm) ⊕ ((Int × Mm) ⊕ (Mm))) := gd (0 ≤ (w (s9.1 + 1)) ∧ (w (s9.1 + 1)) < sl) (gd (0 ≤ (w (s9.1 + 2)) ∧ (w (s9.1 + 2)) < sl) (gd (0 ≤ (w (s9.1 + 3)) ∧ (w (s9.1 + 3)) < sl) (gd (0 ≤ (w (s9.1 + 4)) ∧ (w (s9.1 + 4)) < sl) (gd (0 ≤ (w (s9.1 + 5)) ∧ (w (s9.1 + 5)) < sl) ((p_L_sendLater s9.2 11000 (sc ((w (s9.1 + 1)))) (sc ((w (s9.1 + 2)))) (sc ((w (s9.1 + 3)))) (sc ((w (s9.1 + 4)))) (sc ((w (s9.1 + 5)))) 15000).bind fun r974 => gd (0 ≤ (w (s9.1 + 1)) ∧ (w (s9.1 + 1)) < sl) (gd (0 ≤ (w (s9.1 + 2)) ∧ (w (s9.1 + 2)) < sl) (gd (0 ≤ (w (s9.1 + 3)) ∧ (w (s9.1 + 3)) < sl) (gd (0 ≤ (w (s9.1 + 4)) ∧ (w (s9.1 + 4)) < sl) (gd (0 ≤ (w (s9.1 + 5)) ∧ (w (s9.1 + 5)) < sl) ((p_X11_sendLater r974.2 12000 (sc ((w (s9.1 + 1)))) (sc ((w (s9.1 + 2)))) (sc ((w (s9.1 + 3)))) (sc ((w (s9.1 + 4)))) (sc ((w (s9.1 + 5))))).bind fun r980 => (p_X11_thrown r980.2 12000).bind fun r981 => if r981 = r974.1 then if r974.1 = 0 then gd (aok 15000 0) (if (lcp (rd r980.2 15000 0) r980.1) = 0 then some (.inl ((w (s9.1 + 6)), r980.2)) else some (.inr (.inl (0, r980.2)))) else some (.inl ((w (s9.1 + 6)), r980.2)) else some (.inr (.inl (0, r980.2)))))))))))))
def c_L_13 (s9 : Int × Mm) (sl : Int) (sc : Int → Int) : Option ((Int × Mm) ⊕ ((Int × Mm) ⊕ (Mm))) := gd (0 ≤ (w (s9.1 + 1)) ∧ (w (s9.1 + 1)) < sl) (gd (0 ≤ (w (s9.1 + 2)) ∧ (w (s9.1 + 2)) < sl) ((p_L_resend s9.2 11000 (sc ((w (s9.1 + 1)))) (sc ((w (s9.1 + 2)))) 15000).bind fun r993 => gd (0 ≤ (w (s9.1 + 1)) ∧ (w (s9.1 + 1)) < sl) (gd (0 ≤ (w (s9.1 + 2)) ∧ (w (s9.1 + 2)) < sl) ((p_X11_resend r993.2 12000 (sc ((w (s9.1 + 1)))) (sc ((w (s9.1 + 2))))).bind fun r996 => (p_X11_thrown r996.2 12000).bind fun r997 => if r997 = r993.1 then if r993.1 = 0 then gd (aok 15000 0) (if (lcp (rd r996.2 15000 0) r996.1) = 0 then some (.inl ((w (s9.1 + 6)), r996.2)) else some (.inr (.inl (0, r996.2)))) else some (.inl ((w (s9.1 + 6)), r996.2)) else some (.inr (.inl (0, r996.2)))))))
def c_L_14 (s9 : Int × Mm) (sl : Int) (sc : Int → Int) : Option ((Int × Mm) ⊕ ((Int × Mm) ⊕ (Mm))) := gd (0 ≤ (w (s9.1 + 1)) ∧ (w (s9.1 + 1)) < sl) ((p_L_begin s9.2 11000 (sc ((w (s9.1 + 1)))) 15000).bind fun r1008 => gd (0 ≤ (w (s9.1 + 1)) ∧ (w (s9.1 + 1)) < sl) ((p_X11_begin r1008.2 12000 (sc ((w (s9.1 + 1))))).bind fun r1010 => (p_X11_thrown r1010.2 12000).bind fun r1011 => if r1011 = r1008.1 then if r1008.1 = 0 then gd (aok 15000 0) (if (lcp (rd r1010.2 15000 0) r1010.1) = 0 then some (.inl ((w (s9.1 + 6)), r1010.2)) else some (.inr (.inl (0, r1010.2)))) else some (.inl ((w (s9.1 + 6)), r1010.2)) else some (.inr (.inl (0, r1010.2)))))
def c_L_15 (s9 : Int × Mm) (sl : Int) (sc : Int → Int) : Option ((Int × Mm) ⊕ ((Int × Mm) ⊕ (Mm))) := gd (0 ≤ (w (s9.1 + 1)) ∧ (w (s9.1 + 1)) < sl) (gd (0 ≤ (w (s9.1 + 2)) ∧ (w (s9.1 + 2)) < sl) (gd (0 ≤ (w (s9.1 + 3)) ∧ (w (s9.1 + 3)) < sl) ((p_L_attach s9.2 11000 (sc ((w (s9.1 + 1)))) (sc ((w (s9.1 + 2)))) (sc ((w (s9.1 + 3)))) 15000).bind fun r1024 => gd (0 ≤ (w (s9.1 + 1)) ∧ (w (s9.1 + 1)) < sl) (gd (0 ≤ (w (s9.1 + 2)) ∧ (w (s9.1 + 2)) < sl) (gd (0 ≤ (w (s9.1 + 3)) ∧ (w (s9.1 + 3)) < sl) ((p_X11_attach r1024.2 12000 (sc ((w (s9.1 + 1)))) (sc ((w (s9.1 + 2)))) (sc ((w (s9.1 + 3))))).bind fun r1028 => (p_X11_thrown r1028.2 12000).bind fun r1029 => if r1029 = r1024.1 then if r1024.1 = 0 then gd (aok 15000 0) (if (lcp (rd r1028.2 15000 0) r1028.1) = 0 then some (.inl ((w (s9.1 + 6)), r1028.2)) else some (.inr (.inl (0, r1028.2)))) else some (.inl ((w (s9.1 + 6)), r1028.2)) else some (.inr (.inl (0, r1028.2)))))))))
def c_L_16 (s9 : Int × Mm) (sl : Int) (sc : Int → Int) : Option ((Int × Mm) ⊕ ((Int × Mm) ⊕ (Mm))) := gd (0 ≤ (w (s9.1 + 1)) ∧ (w (s9.1 + 1)) < sl) ((p_L_commit s9.2 11000 (sc ((w (s9.1 + 1)))) 15000).bind fun r1040 => gd (0 ≤ (w (s9.1 + 1)) ∧ (w (s9.1 + 1)) < sl) ((p_X11_commit r1040.2 12000 (sc ((w (s9.1 + 1))))).bind fun r1042 => (p_X11_thrown r1042.2 12000).bind fun r1043 => if r1043 = r1040.1 then if r1040.1 = 0 then gd (aok 15000 0) (if (lcp (rd r1042.2 15000 0) r1042.1) = 0 then some (.inl ((w (s9.1 + 6)), r1042.2)) else some (.inr (.inl (0, r1042.2)))) else some (.inl ((w (s9.1 + 6)), r1042.2)) else some (.inr (.inl (0, r1042.2)))))
def c_L_17 (s9 : Int × Mm) (sl : Int) (sc : Int → Int) : Option ((Int × Mm) ⊕ ((Int × Mm) ⊕ (Mm))) := gd (0 ≤ (w (s9.1 + 1)) ∧ (w (s9.1 + 1)) < sl) ((p_L_abort s9.2 11000 (sc ((w (s9.1 + 1)))) 15000).bind fun r1054 => gd (0 ≤ (w (s9.1 + 1)) ∧ (w (s9.1 + 1)) < sl) ((p_X11_abort r1054.2 12000 (sc ((w (s9.1 + 1))))).bind fun r1056 => (p_X11_thrown r1056.2 12000).bind fun r1057 => if r1057 = r1054.1 then if r1054.1 = 0 then gd (aok 15000 0) (if (lcp (rd r1056.2 15000 0) r1056.1) = 0 then some (.inl ((w (s9.1 + 6)), r1056.2)) else some (.inr (.inl (0, r1056.2)))) else some (.inl ((w (s9.1 + 6)), r1056.2)) else some (.inr (.inl (0, r1056.2)))))
def c_L_18 (s9 : Int × Mm) (sl : Int) (sc : Int → Int) : Option ((Int × Mm) ⊕ ((Int × Mm) ⊕ (Mm))) := gd (0 ≤ (w (s9.1 + 1)) ∧ (w (s9.1 + 1)) < sl) ((p_L_group s9.2 11000 (sc ((w (s9.1 + 1)))) 15000).bind fun r1068 => gd (0 ≤ (w (s9.1 + 1)) ∧ (w (s9.1 + 1)) < sl) ((p_X11_group r1068.2 12000 (sc ((w (s9.1 + 1))))).bind fun r1070 => (p_X11_thrown r1070.2 12000).bind fun r1071 => if r1071 = r1068.1 then if r1068.1 = 0 then gd (aok 15000 0) (if (lcp (rd r1070.2 15000 0) r1070.1) = 0 then some (.inl ((w (s9.1 + 6)), r1070.2)) else some (.inr (.inl (0, r1070.2)))) else some (.inl ((w (s9.1 + 6)), r1070.2)) else some (.inr (.inl (0, r1070.2)))))
def c_L_19 (s9 : Int × Mm) (sl : Int) (sc : Int → Int) : Option ((Int × Mm) ⊕ ((Int × Mm) ⊕ (Mm))) := gd (0 ≤ (w (s9.1 + 1)) ∧ (w (s9.1 + 1)) < sl) ((p_L_join s9.2 11000 (sc ((w (s9.1 + 1)))) 15000).bind fun r1082 => gd (0 ≤ (w (s9.1 + 1)) ∧ (w (s9.1 + 1)) < sl) ((p_X11_join r1082.2 12000 (sc ((w (s9.1 + 1))))).bind fun r1084 => (p_X11_thrown r1084.2 12000).bind fun r1085 => if r1085 = r1082.1 then if r1082.1 = 0 then gd (aok 15000 0) (if (lcp (rd r1084.2 15000 0) r1084.1) = 0 then some (.inl ((w (s9.1 + 6)), r1084.2)) else some (.inr (.inl (0, r1084.2)))) else some (.inl ((w (s9.1 + 6)), r1084.2)) else some (.inr (.inl (0, r1084.2)))))
def c_L_20 (s9 : Int × Mm) (sl : Int) (sc : Int → Int) : Option ((Int × Mm) ⊕ ((Int × Mm) ⊕ (Mm))) := gd (0 ≤ (w (s9.1 + 1)) ∧ (w (s9.1 + 1)) < sl) (gd (0 ≤ (w (s9.1 + 2)) ∧ (w (s9.1 + 2)) < sl) ((p_L_leave s9.2 11000 (sc ((w (s9.1 + 1)))) (sc ((w (s9.1 + 2)))) 15000).bind fun r1097 => gd (0 ≤ (w (s9.1 + 1)) ∧ (w (s9.1 + 1)) < sl) (gd (0 ≤ (w (s9.1 + 2)) ∧ (w (s9.1 + 2)) < sl) ((p_X11_leave r1097.2 12000 (sc ((w (s9.1 + 1)))) (sc ((w (s9.1 + 2))))).bind fun r1100 => (p_X11_thrown r1100.2 12000).bind fun r1101 => if r1101 = r1097.1 then if r1097.1 = 0 then gd (aok 15000 0) (if (lcp (rd r1100.2 15000 0) r1100.1) = 0 then some (.inl ((w (s9.1 + 6)), r1100.2)) else some (.inr (.inl (0, r1100.2)))) else some (.inl ((w (s9.1 + 6)), r1100.2)) else some (.inr (.inl (0, r1100.2)))))))
def c_L_21 (s9 : Int × Mm) (sl : Int) (sc : Int → Int) : Option ((Int × Mm) ⊕ ((Int × Mm) ⊕ (Mm))) := gd (0 ≤ (w (s9.1 + 1)) ∧ (w (s9.1 + 1)) < sl) (gd (0 ≤ (w (s9.1 + 2)) ∧ (w (s9.1 + 2)) < sl) ((p_L_beat s9.2 11000 (sc ((w (s9.1 + 1)))) (sc ((w (s9.1 + 2)))) 15000).bind fun r1113 => gd (0 ≤ (w (s9.1 + 1)) ∧ (w (s9.1 + 1)) < sl) (gd (0 ≤ (w (s9.1 + 2)) ∧ (w (s9.1 + 2)) < sl) ((p_X11_beat r1113.2 12000 (sc ((w (s9.1 + 1)))) (sc ((w (s9.1 + 2))))).bind fun r1116 => (p_X11_thrown r1116.2 12000).bind fun r1117 => if r1117 = r1113.1 then if r1113.1 = 0 then gd (aok 15000 0) (if (lcp (rd r1116.2 15000 0) r1116.1) = 0 then some (.inl ((w (s9.1 + 6)), r1116.2)) else some (.inr (.inl (0, r1116.2)))) else some (.inl ((w (s9.1 + 6)), r1116.2)) else some (.inr (.inl (0, r1116.2)))))))
def c_L_22 (s9 : Int × Mm) (sl : Int) (sc : Int → Int) : Option ((Int × Mm) ⊕ ((Int × Mm) ⊕ (Mm))) := gd (0 ≤ (w (s9.1 + 1)) ∧ (w (s9.1 + 1)) < sl) (gd (0 ≤ (w (s9.1 + 2)) ∧ (w (s9.1 + 2)) < sl) (gd (0 ≤ (w (s9.1 + 3)) ∧ (w (s9.1 + 3)) < sl) ((p_L_credits s9.2 11000 (sc ((w (s9.1 + 1)))) (sc ((w (s9.1 + 2)))) (sc ((w (s9.1 + 3)))) 15000).bind fun r1130 => gd (0 ≤ (w (s9.1 + 1)) ∧ (w (s9.1 + 1)) < sl) (gd (0 ≤ (w (s9.1 + 2)) ∧ (w (s9.1 + 2)) < sl) (gd (0 ≤ (w (s9.1 + 3)) ∧ (w (s9.1 + 3)) < sl) ((p_X11_credits r1130.2 12000 (sc ((w (s9.1 + 1)))) (sc ((w (s9.1 + 2)))) (sc ((w (s9.1 + 3))))).bind fun r1134 => (p_X11_thrown r1134.2 12000).bind fun r1135 => if r1135 = r1130.1 then if r1130.1 = 0 then gd (aok 15000 0) (if (lcp (rd r1134.2 15000 0) r1134.1) = 0 then some (.inl ((w (s9.1 + 6)), r1134.2)) else some (.inr (.inl (0, r1134.2)))) else some (.inl ((w (s9.1 + 6)), r1134.2)) else some (.inr (.inl (0, r1134.2)))))))))
def c_L_23 (s9 : Int × Mm) (sl : Int) (sc : Int → Int) : Option ((Int × Mm) ⊕ ((Int × Mm) ⊕ (Mm))) := gd (0 ≤ (w (s9.1 + 1)) ∧ (w (s9.1 + 1)) < sl) (gd (0 ≤ (w (s9.1 + 2)) ∧ (w (s9.1 + 2)) < sl) ((p_L_read s9.2 11000 (sc ((w (s9.1 + 1)))) (sc ((w (s9.1 + 2)))) 15000).bind fun r1147 => gd (0 ≤ (w (s9.1 + 1)) ∧ (w (s9.1 + 1)) < sl) (gd (0 ≤ (w (s9.1 + 2)) ∧ (w (s9.1 + 2)) < sl) ((p_X11_read r1147.2 12000 (sc ((w (s9.1 + 1)))) (sc ((w (s9.1 + 2))))).bind fun r1150 => (p_X11_thrown r1150.2 12000).bind fun r1151 => if r1151 = r1147.1 then if r1147.1 = 0 then gd (aok 15000 0) (if (lcp (rd r1150.2 15000 0) r1150.1) = 0 then some (.inl ((w (s9.1 + 6)), r1150.2)) else some (.inr (.inl (0, r1150.2)))) else some (.inl ((w (s9.1 + 6)), r1150.2)) else some (.inr (.inl (0, r1150.2)))))))
def c_L_24 (s9 : Int × Mm) (sl : Int) (sc : Int → Int) : Option ((Int × Mm) ⊕ ((Int × Mm) ⊕ (Mm))) := gd (0 ≤ (w (s9.1 + 1)) ∧ (w (s9.1 + 1)) < sl) (gd (0 ≤ (w (s9.1 + 2)) ∧ (w (s9.1 + 2)) < sl) (gd (0 ≤ (w (s9.1 + 3)) ∧ (w (s9.1 + 3)) < sl) ((p_L_done s9.2 11000 (sc ((w (s9.1 + 1)))) (sc ((w (s9.1 + 2)))) (sc ((w (s9.1 + 3)))) 15000).bind fun r1164 => gd (0 ≤ (w (s9.1 + 1)) ∧ (w (s9.1 + 1)) < sl) (gd (0 ≤ (w (s9.1 + 2)) ∧ (w (s9.1 + 2)) < sl) (gd (0 ≤ (w (s9.1 + 3)) ∧ (w (s9.1 + 3)) < sl) ((p_X11_done r1164.2 12000 (sc ((w (s9.1 + 1)))) (sc ((w (s9.1 + 2)))) (sc ((w (s9.1 + 3))))).bind fun r1168 => (p_X11_thrown r1168.2 12000).bind fun r1169 => if r1169 = r1164.1 then if r1164.1 = 0 then gd (aok 15000 0) (if (lcp (rd r1168.2 15000 0) r1168.1) = 0 then some (.inl ((w (s9.1 + 6)), r1168.2)) else some (.inr (.inl (0, r1168.2)))) else some (.inl ((w (s9.1 + 6)), r1168.2)) else some (.inr (.inl (0, r1168.2)))))))))
def c_L_25 (s9 : Int × Mm) (sl : Int) (sc : Int → Int) : Option ((Int × Mm) ⊕ ((Int × Mm) ⊕ (Mm))) := gd (0 ≤ (w (s9.1 + 1)) ∧ (w (s9.1 + 1)) < sl) (gd (0 ≤ (w (s9.1 + 2)) ∧ (w (s9.1 + 2)) < sl) (gd (0 ≤ (w (s9.1 + 3)) ∧ (w (s9.1 + 3)) < sl) ((p_L_retry s9.2 11000 (sc ((w (s9.1 + 1)))) (sc ((w (s9.1 + 2)))) (sc ((w (s9.1 + 3)))) 15000).bind fun r1182 => gd (0 ≤ (w (s9.1 + 1)) ∧ (w (s9.1 + 1)) < sl) (gd (0 ≤ (w (s9.1 + 2)) ∧ (w (s9.1 + 2)) < sl) (gd (0 ≤ (w (s9.1 + 3)) ∧ (w (s9.1 + 3)) < sl) ((p_X11_retry r1182.2 12000 (sc ((w (s9.1 + 1)))) (sc ((w (s9.1 + 2)))) (sc ((w (s9.1 + 3))))).bind fun r1186 => (p_X11_thrown r1186.2 12000).bind fun r1187 => if r1187 = r1182.1 then if r1182.1 = 0 then gd (aok 15000 0) (if (lcp (rd r1186.2 15000 0) r1186.1) = 0 then some (.inl ((w (s9.1 + 6)), r1186.2)) else some (.inr (.inl (0, r1186.2)))) else some (.inl ((w (s9.1 + 6)), r1186.2)) else some (.inr (.inl (0, r1186.2)))))))))
def c_L_26 (s9 : Int × Mm) (sl : Int) (sc : Int → Int) : Option ((Int × Mm) ⊕ ((Int × Mm) ⊕ (Mm))) := gd (0 ≤ (w (s9.1 + 1)) ∧ (w (s9.1 + 1)) < sl) (gd (0 ≤ (w (s9.1 + 2)) ∧ (w (s9.1 + 2)) < sl) ((p_L_commitOffsets s9.2 11000 (sc ((w (s9.1 + 1)))) (sc ((w (s9.1 + 2)))) 15000).bind fun r1199 => gd (0 ≤ (w (s9.1 + 1)) ∧ (w (s9.1 + 1)) < sl) (gd (0 ≤ (w (s9.1 + 2)) ∧ (w (s9.1 + 2)) < sl) ((p_X11_commitOffsets r1199.2 12000 (sc ((w (s9.1 + 1)))) (sc ((w (s9.1 + 2))))).bind fun r1202 => (p_X11_thrown r1202.2 12000).bind fun r1203 => if r1203 = r1199.1 then if r1199.1 = 0 then gd (aok 15000 0) (if (lcp (rd r1202.2 15000 0) r1202.1) = 0 then some (.inl ((w (s9.1 + 6)), r1202.2)) else some (.inr (.inl (0, r1202.2)))) else some (.inl ((w (s9.1 + 6)), r1202.2)) else some (.inr (.inl (0, r1202.2)))))))
def c_L_27 (s9 : Int × Mm) (sl : Int) (sc : Int → Int) : Option ((Int × Mm) ⊕ ((Int × Mm) ⊕ (Mm))) := gd (0 ≤ (w (s9.1 + 1)) ∧ (w (s9.1 + 1)) < sl) (gd (0 ≤ (w (s9.1 + 2)) ∧ (w (s9.1 + 2)) < sl) (gd (0 ≤ (w (s9.1 + 3)) ∧ (w (s9.1 + 3)) < sl) ((p_L_seek s9.2 11000 (sc ((w (s9.1 + 1)))) (sc ((w (s9.1 + 2)))) (sc ((w (s9.1 + 3)))) 15000).bind fun r1216 => gd (0 ≤ (w (s9.1 + 1)) ∧ (w (s9.1 + 1)) < sl) (gd (0 ≤ (w (s9.1 + 2)) ∧ (w (s9.1 + 2)) < sl) (gd (0 ≤ (w (s9.1 + 3)) ∧ (w (s9.1 + 3)) < sl) ((p_X11_seek r1216.2 12000 (sc ((w (s9.1 + 1)))) (sc ((w (s9.1 + 2)))) (sc ((w (s9.1 + 3))))).bind fun r1220 => (p_X11_thrown r1220.2 12000).bind fun r1221 => if r1221 = r1216.1 then if r1216.1 = 0 then gd (aok 15000 0) (if (lcp (rd r1220.2 15000 0) r1220.1) = 0 then some (.inl ((w (s9.1 + 6)), r1220.2)) else some (.inr (.inl (0, r1220.2)))) else some (.inl ((w (s9.1 + 6)), r1220.2)) else some (.inr (.inl (0, r1220.2)))))))))
def c_L_28 (s9 : Int × Mm) (sl : Int) (sc : Int → Int) : Option ((Int × Mm) ⊕ ((Int × Mm) ⊕ (Mm))) := gd (0 ≤ (w (s9.1 + 1)) ∧ (w (s9.1 + 1)) < sl) (gd (0 ≤ (w (s9.1 + 2)) ∧ (w (s9.1 + 2)) < sl) ((p_L_message s9.2 11000 (sc ((w (s9.1 + 1)))) (sc ((w (s9.1 + 2)))) 15000).bind fun r1233 => gd (0 ≤ (w (s9.1 + 1)) ∧ (w (s9.1 + 1)) < sl) (gd (0 ≤ (w (s9.1 + 2)) ∧ (w (s9.1 + 2)) < sl) ((p_X11_message r1233.2 12000 (sc ((w (s9.1 + 1)))) (sc ((w (s9.1 + 2))))).bind fun r1236 => (p_X11_thrown r1236.2 12000).bind fun r1237 => if r1237 = r1233.1 then if r1233.1 = 0 then gd (aok 15000 0) (if (lcp (rd r1236.2 15000 0) r1236.1) = 0 then some (.inl ((w (s9.1 + 6)), r1236.2)) else some (.inr (.inl (0, r1236.2)))) else some (.inl ((w (s9.1 + 6)), r1236.2)) else some (.inr (.inl (0, r1236.2)))))))
def c_L_29 (s9 : Int × Mm) (sl : Int) (sc : Int → Int) : Option ((Int × Mm) ⊕ ((Int × Mm) ⊕ (Mm))) := gd (0 ≤ (w (s9.1 + 1)) ∧ (w (s9.1 + 1)) < sl) (gd (0 ≤ (w (s9.1 + 2)) ∧ (w (s9.1 + 2)) < sl) ((p_L_at s9.2 11000 (sc ((w (s9.1 + 1)))) (sc ((w (s9.1 + 2)))) 15000).bind fun r1249 => gd (0 ≤ (w (s9.1 + 1)) ∧ (w (s9.1 + 1)) < sl) (gd (0 ≤ (w (s9.1 + 2)) ∧ (w (s9.1 + 2)) < sl) ((p_X11_at r1249.2 12000 (sc ((w (s9.1 + 1)))) (sc ((w (s9.1 + 2))))).bind fun r1252 => (p_X11_thrown r1252.2 12000).bind fun r1253 => if r1253 = r1249.1 then if r1249.1 = 0 then gd (aok 15000 0) (if (lcp (rd r1252.2 15000 0) r1252.1) = 0 then some (.inl ((w (s9.1 + 6)), r1252.2)) else some (.inr (.inl (0, r1252.2)))) else some (.inl ((w (s9.1 + 6)), r1252.2)) else some (.inr (.inl (0, r1252.2)))))))
def c_L_30 (s9 : Int × Mm) (sl : Int) (sc : Int → Int) : Option ((Int × Mm) ⊕ ((Int × Mm) ⊕ (Mm))) := gd (0 ≤ (w (s9.1 + 1)) ∧ (w (s9.1 + 1)) < sl) (gd (0 ≤ (w (s9.1 + 2)) ∧ (w (s9.1 + 2)) < sl) ((p_L_partition s9.2 11000 (sc ((w (s9.1 + 1)))) (sc ((w (s9.1 + 2)))) 15000).bind fun r1265 => gd (0 ≤ (w (s9.1 + 1)) ∧ (w (s9.1 + 1)) < sl) (gd (0 ≤ (w (s9.1 + 2)) ∧ (w (s9.1 + 2)) < sl) ((p_X11_partition r1265.2 12000 (sc ((w (s9.1 + 1)))) (sc ((w (s9.1 + 2))))).bind fun r1268 => (p_X11_thrown r1268.2 12000).bind fun r1269 => if r1269 = r1265.1 then if r1265.1 = 0 then gd (aok 15000 0) (if (lcp (rd r1268.2 15000 0) r1268.1) = 0 then some (.inl ((w (s9.1 + 6)), r1268.2)) else some (.inr (.inl (0, r1268.2)))) else some (.inl ((w (s9.1 + 6)), r1268.2)) else some (.inr (.inl (0, r1268.2)))))))
def c_L_31 (s9 : Int × Mm) (sl : Int) (sc : Int → Int) : Option ((Int × Mm) ⊕ ((Int × Mm) ⊕ (Mm))) := gd (0 ≤ (w (s9.1 + 1)) ∧ (w (s9.1 + 1)) < sl) (gd (0 ≤ (w (s9.1 + 2)) ∧ (w (s9.1 + 2)) < sl) (gd (0 ≤ (w (s9.1 + 3)) ∧ (w (s9.1 + 3)) < sl) ((p_L_replica s9.2 11000 (sc ((w (s9.1 + 1)))) (sc ((w (s9.1 + 2)))) (sc ((w (s9.1 + 3)))) 15000).bind fun r1282 => gd (0 ≤ (w (s9.1 + 1)) ∧ (w (s9.1 + 1)) < sl) (gd (0 ≤ (w (s9.1 + 2)) ∧ (w (s9.1 + 2)) < sl) (gd (0 ≤ (w (s9.1 + 3)) ∧ (w (s9.1 + 3)) < sl) ((p_X11_replica r1282.2 12000 (sc ((w (s9.1 + 1)))) (sc ((w (s9.1 + 2)))) (sc ((w (s9.1 + 3))))).bind fun r1286 => (p_X11_thrown r1286.2 12000).bind fun r1287 => if r1287 = r1282.1 then if r1282.1 = 0 then gd (aok 15000 0) (if (lcp (rd r1286.2 15000 0) r1286.1) = 0 then some (.inl ((w (s9.1 + 6)), r1286.2)) else some (.inr (.inl (0, r1286.2)))) else some (.inl ((w (s9.1 + 6)), r1286.2)) else some (.inr (.inl (0, r1286.2)))))))))
def c_L_32 (s9 : Int × Mm) (sl : Int) (sc : Int → Int) : Option ((Int × Mm) ⊕ ((Int × Mm) ⊕ (Mm))) := gd (0 ≤ (w (s9.1 + 1)) ∧ (w (s9.1 + 1)) < sl) (gd (0 ≤ (w (s9.1 + 2)) ∧ (w (s9.1 + 2)) < sl) ((p_L_offsetAt s9.2 11000 (sc ((w (s9.1 + 1)))) (sc ((w (s9.1 + 2)))) 15000).bind fun r1299 => gd (0 ≤ (w (s9.1 + 1)) ∧ (w (s9.1 + 1)) < sl) (gd (0 ≤ (w (s9.1 + 2)) ∧ (w (s9.1 + 2)) < sl) ((p_X11_offsetAt r1299.2 12000 (sc ((w (s9.1 + 1)))) (sc ((w (s9.1 + 2))))).bind fun r1302 => (p_X11_thrown r1302.2 12000).bind fun r1303 => if r1303 = r1299.1 then if r1299.1 = 0 then gd (aok 15000 0) (if (lcp (rd r1302.2 15000 0) r1302.1) = 0 then some (.inl ((w (s9.1 + 6)), r1302.2)) else some (.inr (.inl (0, r1302.2)))) else some (.inl ((w (s9.1 + 6)), r1302.2)) else some (.inr (.inl (0, r1302.2)))))))
def c_L_33 (s9 : Int × Mm) (sl : Int) (sc : Int → Int) : Option ((Int × Mm) ⊕ ((Int × Mm) ⊕ (Mm))) := gd (0 ≤ (w (s9.1 + 1)) ∧ (w (s9.1 + 1)) < sl) (gd (0 ≤ (w (s9.1 + 2)) ∧ (w (s9.1 + 2)) < sl) ((p_L_value s9.2 11000 (sc ((w (s9.1 + 1)))) (sc ((w (s9.1 + 2)))) 15000).bind fun r1315 => gd (0 ≤ (w (s9.1 + 1)) ∧ (w (s9.1 + 1)) < sl) (gd (0 ≤ (w (s9.1 + 2)) ∧ (w (s9.1 + 2)) < sl) ((p_X11_value r1315.2 12000 (sc ((w (s9.1 + 1)))) (sc ((w (s9.1 + 2))))).bind fun r1318 => (p_X11_thrown r1318.2 12000).bind fun r1319 => if r1319 = r1315.1 then if r1315.1 = 0 then gd (aok 15000 0) (if (lcp (rd r1318.2 15000 0) r1318.1) = 0 then some (.inl ((w (s9.1 + 6)), r1318.2)) else some (.inr (.inl (0, r1318.2)))) else some (.inl ((w (s9.1 + 6)), r1318.2)) else some (.inr (.inl (0, r1318.2)))))))
def c_L_34 (s9 : Int × Mm) (sl : Int) (sc : Int → Int) : Option ((Int × Mm) ⊕ ((Int × Mm) ⊕ (Mm))) := gd (0 ≤ (w (s9.1 + 1)) ∧ (w (s9.1 + 1)) < sl) (gd (0 ≤ (w (s9.1 + 2)) ∧ (w (s9.1 + 2)) < sl) (gd (0 ≤ (w (s9.1 + 3)) ∧ (w (s9.1 + 3)) < sl) (gd (0 ≤ (w (s9.1 + 4)) ∧ (w (s9.1 + 4)) < sl) ((p_L_sum s9.2 11000 (sc ((w (s9.1 + 1)))) (sc ((w (s9.1 + 2)))) (sc ((w (s9.1 + 3)))) (sc ((w (s9.1 + 4)))) 15000).bind fun r1333 => gd (0 ≤ (w (s9.1 + 1)) ∧ (w (s9.1 + 1)) < sl) (gd (0 ≤ (w (s9.1 + 2)) ∧ (w (s9.1 + 2)) < sl) (gd (0 ≤ (w (s9.1 + 3)) ∧ (w (s9.1 + 3)) < sl) (gd (0 ≤ (w (s9.1 + 4)) ∧ (w (s9.1 + 4)) < sl) ((p_X11_sum r1333.2 12000 (sc ((w (s9.1 + 1)))) (sc ((w (s9.1 + 2)))) (sc ((w (s9.1 + 3)))) (sc ((w (s9.1 + 4))))).bind fun r1338 => (p_X11_thrown r1338.2 12000).bind fun r1339 => if r1339 = r1333.1 then if r1333.1 = 0 then gd (aok 15000 0) (if (lcp (rd r1338.2 15000 0) r1338.1) = 0 then some (.inl ((w (s9.1 + 6)), r1338.2)) else some (.inr (.inl (0, r1338.2)))) else some (.inl ((w (s9.1 + 6)), r1338.2)) else some (.inr (.inl (0, r1338.2)))))))))))
def c_L_35 (s9 : Int × Mm) (sl : Int) (sc : Int → Int) : Option ((Int × Mm) ⊕ ((Int × Mm) ⊕ (Mm))) := gd (0 ≤ (w (s9.1 + 1)) ∧ (w (s9.1 + 1)) < sl) (gd (0 ≤ (w (s9.1 + 2)) ∧ (w (s9.1 + 2)) < sl) (gd (0 ≤ (w (s9.1 + 3)) ∧ (w (s9.1 + 3)) < sl) ((p_L_share s9.2 11000 (sc ((w (s9.1 + 1)))) (sc ((w (s9.1 + 2)))) (sc ((w (s9.1 + 3)))) 15000).bind fun r1352 => gd (0 ≤ (w (s9.1 + 1)) ∧ (w (s9.1 + 1)) < sl) (gd (0 ≤ (w (s9.1 + 2)) ∧ (w (s9.1 + 2)) < sl) (gd (0 ≤ (w (s9.1 + 3)) ∧ (w (s9.1 + 3)) < sl) ((p_X11_share r1352.2 12000 (sc ((w (s9.1 + 1)))) (sc ((w (s9.1 + 2)))) (sc ((w (s9.1 + 3))))).bind fun r1356 => (p_X11_thrown r1356.2 12000).bind fun r1357 => if r1357 = r1352.1 then if r1352.1 = 0 then gd (aok 15000 0) (if (lcp (rd r1356.2 15000 0) r1356.1) = 0 then some (.inl ((w (s9.1 + 6)), r1356.2)) else some (.inr (.inl (0, r1356.2)))) else some (.inl ((w (s9.1 + 6)), r1356.2)) else some (.inr (.inl (0, r1356.2)))))))))
def c_L_36 (s9 : Int × Mm) (sl : Int) (sc : Int → Int) : Option ((Int × Mm) ⊕ ((Int × Mm) ⊕ (Mm))) := gd (0 ≤ (w (s9.1 + 1)) ∧ (w (s9.1 + 1)) < sl) (gd (0 ≤ (w (s9.1 + 2)) ∧ (w (s9.1 + 2)) < sl) (gd (0 ≤ (w (s9.1 + 3)) ∧ (w (s9.1 + 3)) < sl) ((p_L_member s9.2 11000 (sc ((w (s9.1 + 1)))) (sc ((w (s9.1 + 2)))) (sc ((w (s9.1 + 3)))) 15000).bind fun r1370 => gd (0 ≤ (w (s9.1 + 1)) ∧ (w (s9.1 + 1)) < sl) (gd (0 ≤ (w (s9.1 + 2)) ∧ (w (s9.1 + 2)) < sl) (gd (0 ≤ (w (s9.1 + 3)) ∧ (w (s9.1 + 3)) < sl) ((p_X11_member r1370.2 12000 (sc ((w (s9.1 + 1)))) (sc ((w (s9.1 + 2)))) (sc ((w (s9.1 + 3))))).bind fun r1374 => (p_X11_thrown r1374.2 12000).bind fun r1375 => if r1375 = r1370.1 then if r1370.1 = 0 then gd (aok 15000 0) (if (lcp (rd r1374.2 15000 0) r1374.1) = 0 then some (.inl ((w (s9.1 + 6)), r1374.2)) else some (.inr (.inl (0, r1374.2)))) else some (.inl ((w (s9.1 + 6)), r1374.2)) else some (.inr (.inl (0, r1374.2)))))))))
def c_L_37 (s9 : Int × Mm) (sl : Int) (sc : Int → Int) : Option ((Int × Mm) ⊕ ((Int × Mm) ⊕ (Mm))) := gd (0 ≤ (w (s9.1 + 1)) ∧ (w (s9.1 + 1)) < sl) (gd (0 ≤ (w (s9.1 + 2)) ∧ (w (s9.1 + 2)) < sl) (gd (0 ≤ (w (s9.1 + 3)) ∧ (w (s9.1 + 3)) < sl) (gd (0 ≤ (w (s9.1 + 4)) ∧ (w (s9.1 + 4)) < sl) ((p_L_hand s9.2 11000 (sc ((w (s9.1 + 1)))) (sc ((w (s9.1 + 2)))) (sc ((w (s9.1 + 3)))) (sc ((w (s9.1 + 4)))) 15000).bind fun r1389 => gd (0 ≤ (w (s9.1 + 1)) ∧ (w (s9.1 + 1)) < sl) (gd (0 ≤ (w (s9.1 + 2)) ∧ (w (s9.1 + 2)) < sl) (gd (0 ≤ (w (s9.1 + 3)) ∧ (w (s9.1 + 3)) < sl) (gd (0 ≤ (w (s9.1 + 4)) ∧ (w (s9.1 + 4)) < sl) ((p_X11_hand r1389.2 12000 (sc ((w (s9.1 + 1)))) (sc ((w (s9.1 + 2)))) (sc ((w (s9.1 + 3)))) (sc ((w (s9.1 + 4))))).bind fun r1394 => (p_X11_thrown r1394.2 12000).bind fun r1395 => if r1395 = r1389.1 then if r1389.1 = 0 then gd (aok 15000 0) (if (lcp (rd r1394.2 15000 0) r1394.1) = 0 then some (.inl ((w (s9.1 + 6)), r1394.2)) else some (.inr (.inl (0, r1394.2)))) else some (.inl ((w (s9.1 + 6)), r1394.2)) else some (.inr (.inl (0, r1394.2)))))))))))
def c_L_38 (s9 : Int × Mm) (sl : Int) (sc : Int → Int) : Option ((Int × Mm) ⊕ ((Int × Mm) ⊕ (Mm))) := gd (0 ≤ (w (s9.1 + 1)) ∧ (w (s9.1 + 1)) < sl) (gd (0 ≤ (w (s9.1 + 2)) ∧ (w (s9.1 + 2)) < sl) (gd (0 ≤ (w (s9.1 + 3)) ∧ (w (s9.1 + 3)) < sl) ((p_L_waits s9.2 11000 (sc ((w (s9.1 + 1)))) (sc ((w (s9.1 + 2)))) (sc ((w (s9.1 + 3)))) 15000).bind fun r1408 => gd (0 ≤ (w (s9.1 + 1)) ∧ (w (s9.1 + 1)) < sl) (gd (0 ≤ (w (s9.1 + 2)) ∧ (w (s9.1 + 2)) < sl) (gd (0 ≤ (w (s9.1 + 3)) ∧ (w (s9.1 + 3)) < sl) ((p_X11_waits r1408.2 12000 (sc ((w (s9.1 + 1)))) (sc ((w (s9.1 + 2)))) (sc ((w (s9.1 + 3))))).bind fun r1412 => (p_X11_thrown r1412.2 12000).bind fun r1413 => if r1413 = r1408.1 then if r1408.1 = 0 then gd (aok 15000 0) (if (lcp (rd r1412.2 15000 0) r1412.1) = 0 then some (.inl ((w (s9.1 + 6)), r1412.2)) else some (.inr (.inl (0, r1412.2)))) else some (.inl ((w (s9.1 + 6)), r1412.2)) else some (.inr (.inl (0, r1412.2)))))))))
def c_L_39 (s9 : Int × Mm) (sl : Int) (sc : Int → Int) : Option ((Int × Mm) ⊕ ((Int × Mm) ⊕ (Mm))) := gd (0 ≤ (w (s9.1 + 1)) ∧ (w (s9.1 + 1)) < sl) (gd (0 ≤ (w (s9.1 + 2)) ∧ (w (s9.1 + 2)) < sl) ((p_L_dead s9.2 11000 (sc ((w (s9.1 + 1)))) (sc ((w (s9.1 + 2)))) 15000).bind fun r1425 => gd (0 ≤ (w (s9.1 + 1)) ∧ (w (s9.1 + 1)) < sl) (gd (0 ≤ (w (s9.1 + 2)) ∧ (w (s9.1 + 2)) < sl) ((p_X11_dead r1425.2 12000 (sc ((w (s9.1 + 1)))) (sc ((w (s9.1 + 2))))).bind fun r1428 => (p_X11_thrown r1428.2 12000).bind fun r1429 => if r1429 = r1425.1 then if r1425.1 = 0 then gd (aok 15000 0) (if (lcp (rd r1428.2 15000 0) r1428.1) = 0 then some (.inl ((w (s9.1 + 6)), r1428.2)) else some (.inr (.inl (0, r1428.2)))) else some (.inl ((w (s9.1 + 6)), r1428.2)) else some (.inr (.inl (0, r1428.2)))))))
def c_L_40 (s9 : Int × Mm) (sl : Int) (sc : Int → Int) : Option ((Int × Mm) ⊕ ((Int × Mm) ⊕ (Mm))) := gd (0 ≤ (w (s9.1 + 1)) ∧ (w (s9.1 + 1)) < sl) (gd (0 ≤ (w (s9.1 + 2)) ∧ (w (s9.1 + 2)) < sl) ((p_L_seen s9.2 11000 (sc ((w (s9.1 + 1)))) (sc ((w (s9.1 + 2)))) 15000).bind fun r1441 => gd (0 ≤ (w (s9.1 + 1)) ∧ (w (s9.1 + 1)) < sl) (gd (0 ≤ (w (s9.1 + 2)) ∧ (w (s9.1 + 2)) < sl) ((p_X11_seen r1441.2 12000 (sc ((w (s9.1 + 1)))) (sc ((w (s9.1 + 2))))).bind fun r1444 => (p_X11_thrown r1444.2 12000).bind fun r1445 => if r1445 = r1441.1 then if r1441.1 = 0 then gd (aok 15000 0) (if (lcp (rd r1444.2 15000 0) r1444.1) = 0 then some (.inl ((w (s9.1 + 6)), r1444.2)) else some (.inr (.inl (0, r1444.2)))) else some (.inl ((w (s9.1 + 6)), r1444.2)) else some (.inr (.inl (0, r1444.2)))))))
def c_L_41 (s9 : Int × Mm) (sl : Int) (sc : Int → Int) : Option ((Int × Mm) ⊕ ((Int × Mm) ⊕ (Mm))) := gd (0 ≤ (w (s9.1 + 1)) ∧ (w (s9.1 + 1)) < sl) ((p_L_count s9.2 11000 (sc ((w (s9.1 + 1)))) 15000).bind fun r1456 => gd (0 ≤ (w (s9.1 + 1)) ∧ (w (s9.1 + 1)) < sl) ((p_X11_count r1456.2 12000 (sc ((w (s9.1 + 1))))).bind fun r1458 => (p_X11_thrown r1458.2 12000).bind fun r1459 => if r1459 = r1456.1 then if r1456.1 = 0 then gd (aok 15000 0) (if (lcp (rd r1458.2 15000 0) r1458.1) = 0 then some (.inl ((w (s9.1 + 6)), r1458.2)) else some (.inr (.inl (0, r1458.2)))) else some (.inl ((w (s9.1 + 6)), r1458.2)) else some (.inr (.inl (0, r1458.2)))))
def c_L_42 (s9 : Int × Mm) (sl : Int) (sc : Int → Int) : Option ((Int × Mm) ⊕ ((Int × Mm) ⊕ (Mm))) := gd (0 ≤ (w (s9.1 + 1)) ∧ (w (s9.1 + 1)) < sl) (gd (0 ≤ (w (s9.1 + 2)) ∧ (w (s9.1 + 2)) < sl) ((p_L_ofGroup s9.2 11000 (sc ((w (s9.1 + 1)))) (sc ((w (s9.1 + 2)))) 15000).bind fun r1471 => gd (0 ≤ (w (s9.1 + 1)) ∧ (w (s9.1 + 1)) < sl) (gd (0 ≤ (w (s9.1 + 2)) ∧ (w (s9.1 + 2)) < sl) ((p_X11_ofGroup r1471.2 12000 (sc ((w (s9.1 + 1)))) (sc ((w (s9.1 + 2))))).bind fun r1474 => (p_X11_thrown r1474.2 12000).bind fun r1475 => if r1475 = r1471.1 then if r1471.1 = 0 then gd (aok 15000 0) (if (lcp (rd r1474.2 15000 0) r1474.1) = 0 then some (.inl ((w (s9.1 + 6)), r1474.2)) else some (.inr (.inl (0, r1474.2)))) else some (.inl ((w (s9.1 + 6)), r1474.2)) else some (.inr (.inl (0, r1474.2)))))))
def c_L_43 (s9 : Int × Mm) (sl : Int) (sc : Int → Int) : Option ((Int × Mm) ⊕ ((Int × Mm) ⊕ (Mm))) := gd (0 ≤ (w (s9.1 + 1)) ∧ (w (s9.1 + 1)) < sl) ((p_L_audit s9.2 11000 (sc ((w (s9.1 + 1)))) 15000).bind fun r1486 => gd (0 ≤ (w (s9.1 + 1)) ∧ (w (s9.1 + 1)) < sl) ((p_X11_audit r1486.2 12000 (sc ((w (s9.1 + 1))))).bind fun r1488 => (p_X11_thrown r1488.2 12000).bind fun r1489 => if r1489 = r1486.1 then if r1486.1 = 0 then gd (aok 15000 0) ((if r1488.1 = 0 then some (0) else some (1) : Option (Int)).bind fun (s1495 : Int) => if (lcp (rd r1488.2 15000 0) s1495) = 0 then some (.inl ((w (s9.1 + 6)), r1488.2)) else some (.inr (.inl (0, r1488.2)))) else some (.inl ((w (s9.1 + 6)), r1488.2)) else some (.inr (.inl (0, r1488.2)))))
def c_L_44 (s9 : Int × Mm) : Option ((Int × Mm) ⊕ ((Int × Mm) ⊕ (Mm))) := (p_X10_digest s9.2 11000).bind fun r1505 => (p_X11_digest s9.2 12000).bind fun r1506 => if r1505 = r1506.1 then some (.inl ((w (s9.1 + 6)), r1506.2)) else some (.inr (.inl (0, r1506.2)))
def b_L_law_23 (sl : Int) (sc : Int → Int) (s9 : Int × Mm) : Option ((Int × Mm) ⊕ ((Int × Mm) ⊕ (Mm))) := if (w ((w sl) - 6)) < s9.1 then some (.inr (.inr s9.2)) else gd (0 ≤ s9.1 ∧ s9.1 < sl) (if (ian (sc (s9.1)) 63) = 0 then c_L_0 s9 sl sc else if (ian (sc (s9.1)) 63) = 1 then c_L_1 s9 sl sc else if (ian (sc (s9.1)) 63) = 2 then c_L_2 s9 sl sc else if (ian (sc (s9.1)) 63) = 3 then c_L_3 s9 sl sc else if (ian (sc (s9.1)) 63) = 4 then c_L_4 s9 sl sc else if (ian (sc (s9.1)) 63) = 5 then c_L_5 s9 sl sc else if (ian (sc (s9.1)) 63) = 6 then c_L_6 s9 sl sc else if (ian (sc (s9.1)) 63) = 7 then c_L_7 s9 sl sc else if (ian (sc (s9.1)) 63) = 8 then c_L_8 s9 else if (ian (sc (s9.1)) 63) = 9 then c_L_9 s9 sl sc else if (ian (sc (s9.1)) 63) = 10 then c_L_10 s9 sl sc else if (ian (sc (s9.1)) 63) = 11 then c_L_11 s9 sl sc else if (ian (sc (s9.1)) 63) = 12 then c_L_12 s9 sl sc else if (ian (sc (s9.1)) 63) = 13 then c_L_13 s9 sl sc else if (ian (sc (s9.1)) 63) = 14 then c_L_14 s9 sl sc else if (ian (sc (s9.1)) 63) = 15 then c_L_15 s9 sl sc else if (ian (sc (s9.1)) 63) = 16 then c_L_16 s9 sl sc else if (ian (sc (s9.1)) 63) = 17 then c_L_17 s9 sl sc else if (ian (sc (s9.1)) 63) = 18 then c_L_18 s9 sl sc else if (ian (sc (s9.1)) 63) = 19 then c_L_19 s9 sl sc else if (ian (sc (s9.1)) 63) = 20 then c_L_20 s9 sl sc else if (ian (sc (s9.1)) 63) = 21 then c_L_21 s9 sl sc else if (ian (sc (s9.1)) 63) = 22 then c_L_22 s9 sl sc else if (ian (sc (s9.1)) 63) = 23 then c_L_23 s9 sl sc else if (ian (sc (s9.1)) 63) = 24 then c_L_24 s9 sl sc else if (ian (sc (s9.1)) 63) = 25 then c_L_25 s9 sl sc else if (ian (sc (s9.1)) 63) = 26 then c_L_26 s9 sl sc else if (ian (sc (s9.1)) 63) = 27 then c_L_27 s9 sl sc else if (ian (sc (s9.1)) 63) = 28 then c_L_28 s9 sl sc else if (ian (sc (s9.1)) 63) = 29 then c_L_29 s9 sl sc else if (ian (sc (s9.1)) 63) = 30 then c_L_30 s9 sl sc else if (ian (sc (s9.1)) 63) = 31 then c_L_31 s9 sl sc else if (ian (sc (s9.1)) 63) = 32 then c_L_32 s9 sl sc else if (ian (sc (s9.1)) 63) = 33 then c_L_33 s9 sl sc else if (ian (sc (s9.1)) 63) = 34 then c_L_34 s9 sl sc else if (ian (sc (s9.1)) 63) = 35 then c_L_35 s9 sl sc else if (ian (sc (s9.1)) 63) = 36 then c_L_36 s9 sl sc else if (ian (sc (s9.1)) 63) = 37 then c_L_37 s9 sl sc else if (ian (sc (s9.1)) 63) = 38 then c_L_38 s9 sl sc else if (ian (sc (s9.1)) 63) = 39 then c_L_39 s9 sl sc else if (ian (sc (s9.1)) 63) = 40 then c_L_40 s9 sl sc else if (ian (sc (s9.1)) 63) = 41 then c_L_41 s9 sl sc else if (ian (sc (s9.1)) 63) = 42 then c_L_42 s9 sl sc else if (ian (sc (s9.1)) 63) = 43 then c_L_43 s9 sl sc else if (ian (sc (s9.1)) 63) = 44 then c_L_44 s9 else some (.inl ((w (s9.1 + 6)), s9.2)))
def p_L_law (M : Mm) (sl : Int) (sc : Int → Int) : Option (Int × Mm) := (alo M 11 11000 16).bind fun M1 => (p_X10_init M1 11000).bind fun M3 => (alo M3 12 12000 68).bind fun M4 => (p_X11_init M4 12000).bind fun M6 => (ala M6 15 15000 1).bind fun M7 => (lp (b_L_law_23 sl sc) 1000 (0, M7)).bind (Sum.elim some fun (t10 : Mm) => some (1, t10))
set_option maxRecDepth 100000 in
set_option maxHeartbeats 4000000 in
theorem xe_L_law {D : Dt} {M : Mm} : XE D 1000 mu_L_law (EW 0) 0 [(0, (100, (-1)))] [] M (p_L_law M (D.2.2.2.2.2.1 : Int) (fun i => (D.2.2.2.2.2.2 i.toNat).toInt)) := by
  unfold p_L_law
  refine XE.alo_ (fun q1 q2 => st_new (pc' := 3) (by decide +kernel) rfl cls_10 nw_RL_8 rfl rfl q1 q2) (by decide) (fun M1 h2 => ?_)
  refine XE.go (st_dup (pc' := 4) (by decide +kernel) rfl rfl) ?_
  refine XE.cV (pc' := 7) (st := [(14, 11000)]) (fun r hr => ct_X10_init h2 r hr) (fun r hr => run_I (st := [(14, 11000)]) (by decide +kernel) co_L_law_155 (ct_X10_init h2 r hr) (by decide) h2 rfl rfl (Nat.le_of_ble_eq_true rfl)) rfl rfl (fun M3 => ?_)
  refine XE.go (st_astore_n (j := 1) (i := 1) (pc' := 8) (by decide +kernel) rfl (by decide) rfl (by decide) rfl rfl) ?_
  refine XE.alo_ (fun q1 q2 => st_new (pc' := 11) (by decide +kernel) rfl cls_11 nw_RL_156 rfl rfl q1 q2) (by decide) (fun M4 h5 => ?_)
  refine XE.go (st_dup (pc' := 12) (by decide +kernel) rfl rfl) ?_
  refine XE.cV (pc' := 15) (st := [(15, 12000)]) (fun r hr => ct_X11_init h5 r hr) (fun r hr => run_I (st := [(15, 12000)]) (by decide +kernel) co_L_law_158 (ct_X11_init h5 r hr) (by decide) h5 rfl rfl (Nat.le_of_ble_eq_true rfl)) rfl rfl (fun M6 => ?_)
  refine XE.go (st_astore_n (j := 2) (i := 2) (pc' := 16) (by decide +kernel) rfl (by decide) rfl (by decide) rfl rfl) ?_
  refine XE.go (st_iconst (n := 1) (pc' := 17) (by decide +kernel) (w_eq (by decide) (by decide)) rfl) ?_
  refine XE.ala_ (fun q1 q2 q3 => st_newa (atype := .long) (pc' := 19) (by decide +kernel) rfl ak_15 rfl (bg_9 233 rfl rfl) (by simp) rfl q1 q2 q3 rfl) (by decide) (fun M7 h8 => ?_)
  refine XE.go (st_astore_n (j := 3) (i := 3) (pc' := 20) (by decide +kernel) rfl (by decide) rfl (by decide) rfl rfl) ?_
  refine XE.go (st_iconst (n := 0) (pc' := 21) (by decide +kernel) (w_eq (by decide) (by decide)) rfl) ?_
  refine XE.go (st_istore (j := 4) (pc' := 23) (by decide +kernel)  rfl (by decide) rfl rfl) ?_
  refine XE.pick [4, 3, 2, 1, 0] (L' := [(0, (100, (-1))), (1, (14, 11000)), (2, (15, 12000)), (3, (18, 15000)), (4, (0, 0))]) rfl ?_
  refine XE.loopKX (pcL := 23) (pcE := 3354) (LL := fun (s9 : Int × Mm) => [(0, (100, (-1))), (1, (14, 11000)), (2, (15, 12000)), (3, (18, 15000)), (4, (0, s9.1))]) (sL := fun _ => []) (ML := fun (s9 : Int × Mm) => s9.2) (LE := fun (t10 : Mm) => []) (sE := fun _ => []) (ME := fun (t10 : Mm) => t10) (fun kp kk763 hx762 hc760 he761 s9 => ?_) (fun kp t10 => ?_) 1000 (0, M7)
  · unfold b_L_law_23
    refine XE.go (st_iload (j := 4) (pc' := 25) (by decide +kernel) rfl rfl) ?_
    refine XE.go (st_aload_n (j := 0) (i := 0) (pc' := 26) (by decide +kernel) rfl rfl (by decide) rfl) ?_
    refine XE.go (st_slen (pc' := 27) (by decide +kernel) rfl) ?_
    refine XE.go (st_bipush (n := 6) (pc' := 29) (by decide +kernel) (by decide) (w_eq (by decide) (by decide)) rfl) ?_
    refine XE.go (st_isub (pc' := 30) (by decide +kernel) rfl) ?_
    refine XE.bite (fun h764 => ?_) (fun h765 => ?_)
    · refine XE.go (st_icmp_gt_t (off := 3324) (pc' := 3354) (by decide +kernel) (by decide) h764) ?_
      exact XE.pick [] rfl (he761 s9.2)
    · refine XE.go (st_icmp_gt_f (off := 3324) (pc' := 33) (by decide +kernel) 3354 (by decide) rfl h765) ?_
      refine XE.go (st_aload_n (j := 0) (i := 0) (pc' := 34) (by decide +kernel) rfl rfl (by decide) rfl) ?_
      refine XE.go (st_iload (j := 4) (pc' := 36) (by decide +kernel) rfl rfl) ?_
      refine XE.gdb (fun g766 => ?_)
      refine XE.go (st_sld (pc' := 37) (by decide +kernel) rfl g766.1 g766.2) ?_
      refine XE.go (st_bipush (n := 63) (pc' := 39) (by decide +kernel) (by decide) (w_eq (by decide) (by decide)) rfl) ?_
      refine XE.go (st_iand (pc' := 40) (by decide +kernel) rfl) ?_
      refine XE.bite (fun h767 => ?_) (fun h768 => ?_)
      · refine XE.go (st_tab_in (dflt := 3308) (lo := 0) (hi := 44) (offs := #[196, 292, 372, 428, 484, 540, 596, 652, 708, 752, 820, 912, 1004, 1108, 1176, 1232, 1312, 1368, 1424, 1480, 1536, 1604, 1672, 1752, 1820, 1900, 1980, 2048, 2128, 2196, 2264, 2332, 2412, 2480, 2548, 2640, 2720, 2800, 2892, 2972, 3040, 3108, 3164, 3232, 3295]) (len := 196) (off := 196) (pc' := 236) (by decide +kernel) 0 h767 (by decide) (by decide) (by decide) (by decide)) ?_
        unfold c_L_0
        refine XE.go (st_aload_n (j := 1) (i := 1) (pc' := 237) (by decide +kernel) rfl rfl (by decide) rfl) ?_
        refine XE.go (st_aload_n (j := 0) (i := 0) (pc' := 238) (by decide +kernel) rfl rfl (by decide) rfl) ?_
        refine XE.go (st_iload (j := 4) (pc' := 240) (by decide +kernel) rfl rfl) ?_
        refine XE.go (st_iconst (n := 1) (pc' := 241) (by decide +kernel) (w_eq (by decide) (by decide)) rfl) ?_
        refine XE.go (st_iadd (pc' := 242) (by decide +kernel) rfl) ?_
        refine XE.gdb (fun g769 => ?_)
        refine XE.go (st_sld (pc' := 243) (by decide +kernel) rfl g769.1 g769.2) ?_
        refine XE.go (st_aload_n (j := 0) (i := 0) (pc' := 244) (by decide +kernel) rfl rfl (by decide) rfl) ?_
        refine XE.go (st_iload (j := 4) (pc' := 246) (by decide +kernel) rfl rfl) ?_
        refine XE.go (st_iconst (n := 2) (pc' := 247) (by decide +kernel) (w_eq (by decide) (by decide)) rfl) ?_
        refine XE.go (st_iadd (pc' := 248) (by decide +kernel) rfl) ?_
        refine XE.gdb (fun g770 => ?_)
        refine XE.go (st_sld (pc' := 249) (by decide +kernel) rfl g770.1 g770.2) ?_
        refine XE.go (st_aload_n (j := 0) (i := 0) (pc' := 250) (by decide +kernel) rfl rfl (by decide) rfl) ?_
        refine XE.go (st_iload (j := 4) (pc' := 252) (by decide +kernel) rfl rfl) ?_
        refine XE.go (st_iconst (n := 3) (pc' := 253) (by decide +kernel) (w_eq (by decide) (by decide)) rfl) ?_
        refine XE.go (st_iadd (pc' := 254) (by decide +kernel) rfl) ?_
        refine XE.gdb (fun g771 => ?_)
        refine XE.go (st_sld (pc' := 255) (by decide +kernel) rfl g771.1 g771.2) ?_
        refine XE.asc ?_
        refine XE.join (pcJ := 263) (LJ := fun (s772 : Int) => [(0, (100, (-1))), (1, (14, 11000)), (2, (15, 12000)), (3, (18, 15000)), (4, (0, s9.1))]) (sJ := fun (s772 : Int) => [(0, s772), (0, (sc ((w (s9.1 + 2))))), (0, (sc ((w (s9.1 + 1))))), (14, 11000)]) (MJ := fun (s772 : Int) => s9.2) (fun kk775 hk773 => ?_) (fun s772 => ?_)
        · refine XE.bite (fun h776 => ?_) (fun h777 => ?_)
          · refine XE.go (st_if_eq_t (off := 7) (pc' := 262) (by decide +kernel) (by decide) h776) ?_
            refine XE.go (st_iconst (n := 0) (pc' := 263) (by decide +kernel) (w_eq (by decide) (by decide)) rfl) ?_
            exact hk773 0
          · refine XE.go (st_if_eq_f (off := 7) (pc' := 258) (by decide +kernel) 262 (by decide) rfl h777) ?_
            refine XE.go (st_iconst (n := 1) (pc' := 259) (by decide +kernel) (w_eq (by decide) (by decide)) rfl) ?_
            refine XE.go (st_goto (off := 4) (pc' := 263) (by decide +kernel) (by decide)) ?_
            exact hk773 1
        · refine XE.go (st_aload_n (j := 3) (i := 3) (pc' := 264) (by decide +kernel) rfl rfl (by decide) rfl) ?_
          refine XE.asc ?_
          refine XE.cW1 (pc' := 267) (st := []) (fun r hr => ct_L_topic r hr) (fun r hr => run_S (st := []) (by decide +kernel) co_L_law_159 (ct_L_topic r hr) rfl rfl (Nat.le_of_ble_eq_true rfl)) rfl rfl (fun r778 => ?_)
          refine XE.go (st_istore (j := 5) (pc' := 269) (by decide +kernel)  rfl (by decide) rfl rfl) ?_
          refine XE.go (st_aload_n (j := 2) (i := 2) (pc' := 270) (by decide +kernel) rfl rfl (by decide) rfl) ?_
          refine XE.go (st_aload_n (j := 0) (i := 0) (pc' := 271) (by decide +kernel) rfl rfl (by decide) rfl) ?_
          refine XE.go (st_iload (j := 4) (pc' := 273) (by decide +kernel) rfl rfl) ?_
          refine XE.go (st_iconst (n := 1) (pc' := 274) (by decide +kernel) (w_eq (by decide) (by decide)) rfl) ?_
          refine XE.go (st_iadd (pc' := 275) (by decide +kernel) rfl) ?_
          refine XE.gdb (fun g779 => ?_)
          refine XE.go (st_sld (pc' := 276) (by decide +kernel) rfl g779.1 g779.2) ?_
          refine XE.go (st_aload_n (j := 0) (i := 0) (pc' := 277) (by decide +kernel) rfl rfl (by decide) rfl) ?_
          refine XE.go (st_iload (j := 4) (pc' := 279) (by decide +kernel) rfl rfl) ?_
          refine XE.go (st_iconst (n := 2) (pc' := 280) (by decide +kernel) (w_eq (by decide) (by decide)) rfl) ?_
          refine XE.go (st_iadd (pc' := 281) (by decide +kernel) rfl) ?_
          refine XE.gdb (fun g780 => ?_)
          refine XE.go (st_sld (pc' := 282) (by decide +kernel) rfl g780.1 g780.2) ?_
          refine XE.go (st_aload_n (j := 0) (i := 0) (pc' := 283) (by decide +kernel) rfl rfl (by decide) rfl) ?_
          refine XE.go (st_iload (j := 4) (pc' := 285) (by decide +kernel) rfl rfl) ?_
          refine XE.go (st_iconst (n := 3) (pc' := 286) (by decide +kernel) (w_eq (by decide) (by decide)) rfl) ?_
          refine XE.go (st_iadd (pc' := 287) (by decide +kernel) rfl) ?_
          refine XE.gdb (fun g781 => ?_)
          refine XE.go (st_sld (pc' := 288) (by decide +kernel) rfl g781.1 g781.2) ?_
          refine XE.asc ?_
          refine XE.join (pcJ := 296) (LJ := fun (s782 : Int) => [(0, (100, (-1))), (1, (14, 11000)), (2, (15, 12000)), (3, (18, 15000)), (4, (0, s9.1)), (5, (0, r778.1))]) (sJ := fun (s782 : Int) => [(0, s782), (0, (sc ((w (s9.1 + 2))))), (0, (sc ((w (s9.1 + 1))))), (15, 12000)]) (MJ := fun (s782 : Int) => r778.2) (fun kk785 hk783 => ?_) (fun s782 => ?_)
          · refine XE.bite (fun h786 => ?_) (fun h787 => ?_)
            · refine XE.go (st_if_eq_t (off := 7) (pc' := 295) (by decide +kernel) (by decide) h786) ?_
              refine XE.go (st_iconst (n := 0) (pc' := 296) (by decide +kernel) (w_eq (by decide) (by decide)) rfl) ?_
              exact XE.pick [1, 2, 3, 4, 5, 0] rfl (hk783 0)
            · refine XE.go (st_if_eq_f (off := 7) (pc' := 291) (by decide +kernel) 295 (by decide) rfl h787) ?_
              refine XE.go (st_iconst (n := 1) (pc' := 292) (by decide +kernel) (w_eq (by decide) (by decide)) rfl) ?_
              refine XE.go (st_goto (off := 4) (pc' := 296) (by decide +kernel) (by decide)) ?_
              exact XE.pick [1, 2, 3, 4, 5, 0] rfl (hk783 1)
          · refine XE.asc ?_
            refine XE.cW (pc' := 299) (st := []) (fun r hr => ct_X11_topic h5 r hr) (fun r hr => run_V (st := []) (by decide +kernel) co_L_law_164 (ct_X11_topic h5 r hr) rfl h5 rfl rfl (Nat.le_of_ble_eq_true rfl)) rfl rfl (fun r788 => ?_)
            refine XE.go (st_istore (j := 6) (pc' := 301) (by decide +kernel)  rfl (by decide) rfl rfl) ?_
            refine XE.go (st_aload_n (j := 2) (i := 2) (pc' := 302) (by decide +kernel) rfl rfl (by decide) rfl) ?_
            refine XE.asc ?_
            refine XE.cP (pc' := 305) (st := []) (fun r hr => ct_X11_thrown h5 r hr) (fun r hr => run_V (st := []) (by decide +kernel) co_L_law_165 (ct_X11_thrown h5 r hr) rfl h5 rfl rfl (Nat.le_of_ble_eq_true rfl)) rfl rfl (fun r789 => ?_)
            refine XE.go (st_iload (j := 5) (pc' := 307) (by decide +kernel) rfl rfl) ?_
            refine XE.bite (fun h790 => ?_) (fun h791 => ?_)
            · refine XE.go (st_icmp_eq_t (off := 5) (pc' := 312) (by decide +kernel) (by decide) h790) ?_
              refine XE.go (st_iload (j := 5) (pc' := 314) (by decide +kernel) rfl rfl) ?_
              refine XE.bite (fun h792 => ?_) (fun h793 => ?_)
              · refine XE.go (st_if_ne_f (off := 15) (pc' := 317) (by decide +kernel) 329 (by decide) rfl (not_not_intro h792)) ?_
                refine XE.go (st_aload_n (j := 3) (i := 3) (pc' := 318) (by decide +kernel) rfl rfl (by decide) rfl) ?_
                refine XE.go (st_iconst (n := 0) (pc' := 319) (by decide +kernel) (w_eq (by decide) (by decide)) rfl) ?_
                refine XE.gdb (fun g794 => ?_)
                refine XE.go (st_ald (k := 15) (tp := 2) (pc' := 320) (by decide +kernel) rfl ak_15 rfl (by decide) rfl (Or.inr (Or.inr (Or.inl ⟨rfl, rfl⟩))) g794.1 g794.2.1 g794.2.2) ?_
                refine XE.go (st_iload (j := 6) (pc' := 322) (by decide +kernel) rfl rfl) ?_
                refine XE.go (st_i2l (pc' := 323) (by decide +kernel) rfl) ?_
                refine XE.go (st_lcmp (pc' := 324) (by decide +kernel) rfl) ?_
                refine XE.bite (fun h795 => ?_) (fun h796 => ?_)
                · refine XE.go (st_if_eq_t (off := 5) (pc' := 329) (by decide +kernel) (by decide) h795) ?_
                  refine XE.go (st_goto (off := 3019) (pc' := 3348) (by decide +kernel) (by decide)) ?_
                  refine XE.go (st_iinc (j := 4) (n := 6) (pc' := 3351) (by decide +kernel) rfl rfl (by decide) rfl rfl) ?_
                  refine XE.go (st_goto (off := (-3328)) (pc' := 23) (by decide +kernel) (by decide)) ?_
                  exact XE.pick [2, 3, 4, 5, 0] rfl (hc760 ((w (s9.1 + 6)), r788.2))
                · refine XE.go (st_if_eq_f (off := 5) (pc' := 327) (by decide +kernel) 329 (by decide) rfl h796) ?_
                  refine XE.go (st_iconst (n := 0) (pc' := 328) (by decide +kernel) (w_eq (by decide) (by decide)) rfl) ?_
                  refine XE.cast (hx762 _) ?_
                  exact XE.rt rfl (X_zret (by decide +kernel) rfl (by decide))
              · refine XE.go (st_if_ne_t (off := 15) (pc' := 329) (by decide +kernel) (by decide) h793) ?_
                refine XE.go (st_goto (off := 3019) (pc' := 3348) (by decide +kernel) (by decide)) ?_
                refine XE.go (st_iinc (j := 4) (n := 6) (pc' := 3351) (by decide +kernel) rfl rfl (by decide) rfl rfl) ?_
                refine XE.go (st_goto (off := (-3328)) (pc' := 23) (by decide +kernel) (by decide)) ?_
                exact XE.pick [2, 3, 4, 5, 0] rfl (hc760 ((w (s9.1 + 6)), r788.2))
            · refine XE.go (st_icmp_eq_f (off := 5) (pc' := 310) (by decide +kernel) 312 (by decide) rfl h791) ?_
              refine XE.go (st_iconst (n := 0) (pc' := 311) (by decide +kernel) (w_eq (by decide) (by decide)) rfl) ?_
              refine XE.cast (hx762 _) ?_
              exact XE.rt rfl (X_zret (by decide +kernel) rfl (by decide))
      refine XE.bite (fun h797 => ?_) (fun h798 => ?_)
      · refine XE.go (st_tab_in (dflt := 3308) (lo := 0) (hi := 44) (offs := #[196, 292, 372, 428, 484, 540, 596, 652, 708, 752, 820, 912, 1004, 1108, 1176, 1232, 1312, 1368, 1424, 1480, 1536, 1604, 1672, 1752, 1820, 1900, 1980, 2048, 2128, 2196, 2264, 2332, 2412, 2480, 2548, 2640, 2720, 2800, 2892, 2972, 3040, 3108, 3164, 3232, 3295]) (len := 196) (off := 292) (pc' := 332) (by decide +kernel) 1 h797 (by decide) (by decide) (by decide) (by decide)) ?_
        unfold c_L_1
        refine XE.go (st_aload_n (j := 1) (i := 1) (pc' := 333) (by decide +kernel) rfl rfl (by decide) rfl) ?_
        refine XE.go (st_aload_n (j := 0) (i := 0) (pc' := 334) (by decide +kernel) rfl rfl (by decide) rfl) ?_
        refine XE.go (st_iload (j := 4) (pc' := 336) (by decide +kernel) rfl rfl) ?_
        refine XE.go (st_iconst (n := 1) (pc' := 337) (by decide +kernel) (w_eq (by decide) (by decide)) rfl) ?_
        refine XE.go (st_iadd (pc' := 338) (by decide +kernel) rfl) ?_
        refine XE.gdb (fun g799 => ?_)
        refine XE.go (st_sld (pc' := 339) (by decide +kernel) rfl g799.1 g799.2) ?_
        refine XE.go (st_aload_n (j := 0) (i := 0) (pc' := 340) (by decide +kernel) rfl rfl (by decide) rfl) ?_
        refine XE.go (st_iload (j := 4) (pc' := 342) (by decide +kernel) rfl rfl) ?_
        refine XE.go (st_iconst (n := 2) (pc' := 343) (by decide +kernel) (w_eq (by decide) (by decide)) rfl) ?_
        refine XE.go (st_iadd (pc' := 344) (by decide +kernel) rfl) ?_
        refine XE.gdb (fun g800 => ?_)
        refine XE.go (st_sld (pc' := 345) (by decide +kernel) rfl g800.1 g800.2) ?_
        refine XE.go (st_aload_n (j := 0) (i := 0) (pc' := 346) (by decide +kernel) rfl rfl (by decide) rfl) ?_
        refine XE.go (st_iload (j := 4) (pc' := 348) (by decide +kernel) rfl rfl) ?_
        refine XE.go (st_iconst (n := 3) (pc' := 349) (by decide +kernel) (w_eq (by decide) (by decide)) rfl) ?_
        refine XE.go (st_iadd (pc' := 350) (by decide +kernel) rfl) ?_
        refine XE.gdb (fun g801 => ?_)
        refine XE.go (st_sld (pc' := 351) (by decide +kernel) rfl g801.1 g801.2) ?_
        refine XE.go (st_aload_n (j := 3) (i := 3) (pc' := 352) (by decide +kernel) rfl rfl (by decide) rfl) ?_
        refine XE.asc ?_
        refine XE.cW1 (pc' := 355) (st := []) (fun r hr => ct_L_retain r hr) (fun r hr => run_S (st := []) (by decide +kernel) co_L_law_168 (ct_L_retain r hr) rfl rfl (Nat.le_of_ble_eq_true rfl)) rfl rfl (fun r802 => ?_)
        refine XE.go (st_istore (j := 5) (pc' := 357) (by decide +kernel)  rfl (by decide) rfl rfl) ?_
        refine XE.go (st_aload_n (j := 2) (i := 2) (pc' := 358) (by decide +kernel) rfl rfl (by decide) rfl) ?_
        refine XE.go (st_aload_n (j := 0) (i := 0) (pc' := 359) (by decide +kernel) rfl rfl (by decide) rfl) ?_
        refine XE.go (st_iload (j := 4) (pc' := 361) (by decide +kernel) rfl rfl) ?_
        refine XE.go (st_iconst (n := 1) (pc' := 362) (by decide +kernel) (w_eq (by decide) (by decide)) rfl) ?_
        refine XE.go (st_iadd (pc' := 363) (by decide +kernel) rfl) ?_
        refine XE.gdb (fun g803 => ?_)
        refine XE.go (st_sld (pc' := 364) (by decide +kernel) rfl g803.1 g803.2) ?_
        refine XE.go (st_aload_n (j := 0) (i := 0) (pc' := 365) (by decide +kernel) rfl rfl (by decide) rfl) ?_
        refine XE.go (st_iload (j := 4) (pc' := 367) (by decide +kernel) rfl rfl) ?_
        refine XE.go (st_iconst (n := 2) (pc' := 368) (by decide +kernel) (w_eq (by decide) (by decide)) rfl) ?_
        refine XE.go (st_iadd (pc' := 369) (by decide +kernel) rfl) ?_
        refine XE.gdb (fun g804 => ?_)
        refine XE.go (st_sld (pc' := 370) (by decide +kernel) rfl g804.1 g804.2) ?_
        refine XE.go (st_aload_n (j := 0) (i := 0) (pc' := 371) (by decide +kernel) rfl rfl (by decide) rfl) ?_
        refine XE.go (st_iload (j := 4) (pc' := 373) (by decide +kernel) rfl rfl) ?_
        refine XE.go (st_iconst (n := 3) (pc' := 374) (by decide +kernel) (w_eq (by decide) (by decide)) rfl) ?_
        refine XE.go (st_iadd (pc' := 375) (by decide +kernel) rfl) ?_
        refine XE.gdb (fun g805 => ?_)
        refine XE.go (st_sld (pc' := 376) (by decide +kernel) rfl g805.1 g805.2) ?_
        refine XE.asc ?_
        refine XE.cW (pc' := 379) (st := []) (fun r hr => ct_X11_retain h5 r hr) (fun r hr => run_V (st := []) (by decide +kernel) co_L_law_171 (ct_X11_retain h5 r hr) rfl h5 rfl rfl (Nat.le_of_ble_eq_true rfl)) rfl rfl (fun r806 => ?_)
        refine XE.go (st_istore (j := 6) (pc' := 381) (by decide +kernel)  rfl (by decide) rfl rfl) ?_
        refine XE.go (st_aload_n (j := 2) (i := 2) (pc' := 382) (by decide +kernel) rfl rfl (by decide) rfl) ?_
        refine XE.asc ?_
        refine XE.cP (pc' := 385) (st := []) (fun r hr => ct_X11_thrown h5 r hr) (fun r hr => run_V (st := []) (by decide +kernel) co_L_law_165 (ct_X11_thrown h5 r hr) rfl h5 rfl rfl (Nat.le_of_ble_eq_true rfl)) rfl rfl (fun r807 => ?_)
        refine XE.go (st_iload (j := 5) (pc' := 387) (by decide +kernel) rfl rfl) ?_
        refine XE.bite (fun h808 => ?_) (fun h809 => ?_)
        · refine XE.go (st_icmp_eq_t (off := 5) (pc' := 392) (by decide +kernel) (by decide) h808) ?_
          refine XE.go (st_iload (j := 5) (pc' := 394) (by decide +kernel) rfl rfl) ?_
          refine XE.bite (fun h810 => ?_) (fun h811 => ?_)
          · refine XE.go (st_if_ne_f (off := 15) (pc' := 397) (by decide +kernel) 409 (by decide) rfl (not_not_intro h810)) ?_
            refine XE.go (st_aload_n (j := 3) (i := 3) (pc' := 398) (by decide +kernel) rfl rfl (by decide) rfl) ?_
            refine XE.go (st_iconst (n := 0) (pc' := 399) (by decide +kernel) (w_eq (by decide) (by decide)) rfl) ?_
            refine XE.gdb (fun g812 => ?_)
            refine XE.go (st_ald (k := 15) (tp := 2) (pc' := 400) (by decide +kernel) rfl ak_15 rfl (by decide) rfl (Or.inr (Or.inr (Or.inl ⟨rfl, rfl⟩))) g812.1 g812.2.1 g812.2.2) ?_
            refine XE.go (st_iload (j := 6) (pc' := 402) (by decide +kernel) rfl rfl) ?_
            refine XE.go (st_i2l (pc' := 403) (by decide +kernel) rfl) ?_
            refine XE.go (st_lcmp (pc' := 404) (by decide +kernel) rfl) ?_
            refine XE.bite (fun h813 => ?_) (fun h814 => ?_)
            · refine XE.go (st_if_eq_t (off := 5) (pc' := 409) (by decide +kernel) (by decide) h813) ?_
              refine XE.go (st_goto (off := 2939) (pc' := 3348) (by decide +kernel) (by decide)) ?_
              refine XE.go (st_iinc (j := 4) (n := 6) (pc' := 3351) (by decide +kernel) rfl rfl (by decide) rfl rfl) ?_
              refine XE.go (st_goto (off := (-3328)) (pc' := 23) (by decide +kernel) (by decide)) ?_
              exact XE.pick [3, 4, 5, 6, 0] rfl (hc760 ((w (s9.1 + 6)), r806.2))
            · refine XE.go (st_if_eq_f (off := 5) (pc' := 407) (by decide +kernel) 409 (by decide) rfl h814) ?_
              refine XE.go (st_iconst (n := 0) (pc' := 408) (by decide +kernel) (w_eq (by decide) (by decide)) rfl) ?_
              refine XE.cast (hx762 _) ?_
              exact XE.rt rfl (X_zret (by decide +kernel) rfl (by decide))
          · refine XE.go (st_if_ne_t (off := 15) (pc' := 409) (by decide +kernel) (by decide) h811) ?_
            refine XE.go (st_goto (off := 2939) (pc' := 3348) (by decide +kernel) (by decide)) ?_
            refine XE.go (st_iinc (j := 4) (n := 6) (pc' := 3351) (by decide +kernel) rfl rfl (by decide) rfl rfl) ?_
            refine XE.go (st_goto (off := (-3328)) (pc' := 23) (by decide +kernel) (by decide)) ?_
            exact XE.pick [3, 4, 5, 6, 0] rfl (hc760 ((w (s9.1 + 6)), r806.2))
        · refine XE.go (st_icmp_eq_f (off := 5) (pc' := 390) (by decide +kernel) 392 (by decide) rfl h809) ?_
          refine XE.go (st_iconst (n := 0) (pc' := 391) (by decide +kernel) (w_eq (by decide) (by decide)) rfl) ?_
          refine XE.cast (hx762 _) ?_
          exact XE.rt rfl (X_zret (by decide +kernel) rfl (by decide))
      refine XE.bite (fun h815 => ?_) (fun h816 => ?_)
      · refine XE.go (st_tab_in (dflt := 3308) (lo := 0) (hi := 44) (offs := #[196, 292, 372, 428, 484, 540, 596, 652, 708, 752, 820, 912, 1004, 1108, 1176, 1232, 1312, 1368, 1424, 1480, 1536, 1604, 1672, 1752, 1820, 1900, 1980, 2048, 2128, 2196, 2264, 2332, 2412, 2480, 2548, 2640, 2720, 2800, 2892, 2972, 3040, 3108, 3164, 3232, 3295]) (len := 196) (off := 372) (pc' := 412) (by decide +kernel) 2 h815 (by decide) (by decide) (by decide) (by decide)) ?_
        unfold c_L_2
        refine XE.go (st_aload_n (j := 1) (i := 1) (pc' := 413) (by decide +kernel) rfl rfl (by decide) rfl) ?_
        refine XE.go (st_aload_n (j := 0) (i := 0) (pc' := 414) (by decide +kernel) rfl rfl (by decide) rfl) ?_
        refine XE.go (st_iload (j := 4) (pc' := 416) (by decide +kernel) rfl rfl) ?_
        refine XE.go (st_iconst (n := 1) (pc' := 417) (by decide +kernel) (w_eq (by decide) (by decide)) rfl) ?_
        refine XE.go (st_iadd (pc' := 418) (by decide +kernel) rfl) ?_
        refine XE.gdb (fun g817 => ?_)
        refine XE.go (st_sld (pc' := 419) (by decide +kernel) rfl g817.1 g817.2) ?_
        refine XE.go (st_aload_n (j := 3) (i := 3) (pc' := 420) (by decide +kernel) rfl rfl (by decide) rfl) ?_
        refine XE.asc ?_
        refine XE.cW1 (pc' := 423) (st := []) (fun r hr => ct_L_compact r hr) (fun r hr => run_S (st := []) (by decide +kernel) co_L_law_172 (ct_L_compact r hr) rfl rfl (Nat.le_of_ble_eq_true rfl)) rfl rfl (fun r818 => ?_)
        refine XE.go (st_istore (j := 5) (pc' := 425) (by decide +kernel)  rfl (by decide) rfl rfl) ?_
        refine XE.go (st_aload_n (j := 2) (i := 2) (pc' := 426) (by decide +kernel) rfl rfl (by decide) rfl) ?_
        refine XE.go (st_aload_n (j := 0) (i := 0) (pc' := 427) (by decide +kernel) rfl rfl (by decide) rfl) ?_
        refine XE.go (st_iload (j := 4) (pc' := 429) (by decide +kernel) rfl rfl) ?_
        refine XE.go (st_iconst (n := 1) (pc' := 430) (by decide +kernel) (w_eq (by decide) (by decide)) rfl) ?_
        refine XE.go (st_iadd (pc' := 431) (by decide +kernel) rfl) ?_
        refine XE.gdb (fun g819 => ?_)
        refine XE.go (st_sld (pc' := 432) (by decide +kernel) rfl g819.1 g819.2) ?_
        refine XE.asc ?_
        refine XE.cW (pc' := 435) (st := []) (fun r hr => ct_X11_compact h5 r hr) (fun r hr => run_V (st := []) (by decide +kernel) co_L_law_175 (ct_X11_compact h5 r hr) rfl h5 rfl rfl (Nat.le_of_ble_eq_true rfl)) rfl rfl (fun r820 => ?_)
        refine XE.go (st_istore (j := 6) (pc' := 437) (by decide +kernel)  rfl (by decide) rfl rfl) ?_
        refine XE.go (st_aload_n (j := 2) (i := 2) (pc' := 438) (by decide +kernel) rfl rfl (by decide) rfl) ?_
        refine XE.asc ?_
        refine XE.cP (pc' := 441) (st := []) (fun r hr => ct_X11_thrown h5 r hr) (fun r hr => run_V (st := []) (by decide +kernel) co_L_law_165 (ct_X11_thrown h5 r hr) rfl h5 rfl rfl (Nat.le_of_ble_eq_true rfl)) rfl rfl (fun r821 => ?_)
        refine XE.go (st_iload (j := 5) (pc' := 443) (by decide +kernel) rfl rfl) ?_
        refine XE.bite (fun h822 => ?_) (fun h823 => ?_)
        · refine XE.go (st_icmp_eq_t (off := 5) (pc' := 448) (by decide +kernel) (by decide) h822) ?_
          refine XE.go (st_iload (j := 5) (pc' := 450) (by decide +kernel) rfl rfl) ?_
          refine XE.bite (fun h824 => ?_) (fun h825 => ?_)
          · refine XE.go (st_if_ne_f (off := 15) (pc' := 453) (by decide +kernel) 465 (by decide) rfl (not_not_intro h824)) ?_
            refine XE.go (st_aload_n (j := 3) (i := 3) (pc' := 454) (by decide +kernel) rfl rfl (by decide) rfl) ?_
            refine XE.go (st_iconst (n := 0) (pc' := 455) (by decide +kernel) (w_eq (by decide) (by decide)) rfl) ?_
            refine XE.gdb (fun g826 => ?_)
            refine XE.go (st_ald (k := 15) (tp := 2) (pc' := 456) (by decide +kernel) rfl ak_15 rfl (by decide) rfl (Or.inr (Or.inr (Or.inl ⟨rfl, rfl⟩))) g826.1 g826.2.1 g826.2.2) ?_
            refine XE.go (st_iload (j := 6) (pc' := 458) (by decide +kernel) rfl rfl) ?_
            refine XE.go (st_i2l (pc' := 459) (by decide +kernel) rfl) ?_
            refine XE.go (st_lcmp (pc' := 460) (by decide +kernel) rfl) ?_
            refine XE.bite (fun h827 => ?_) (fun h828 => ?_)
            · refine XE.go (st_if_eq_t (off := 5) (pc' := 465) (by decide +kernel) (by decide) h827) ?_
              refine XE.go (st_goto (off := 2883) (pc' := 3348) (by decide +kernel) (by decide)) ?_
              refine XE.go (st_iinc (j := 4) (n := 6) (pc' := 3351) (by decide +kernel) rfl rfl (by decide) rfl rfl) ?_
              refine XE.go (st_goto (off := (-3328)) (pc' := 23) (by decide +kernel) (by decide)) ?_
              exact XE.pick [3, 4, 5, 6, 0] rfl (hc760 ((w (s9.1 + 6)), r820.2))
            · refine XE.go (st_if_eq_f (off := 5) (pc' := 463) (by decide +kernel) 465 (by decide) rfl h828) ?_
              refine XE.go (st_iconst (n := 0) (pc' := 464) (by decide +kernel) (w_eq (by decide) (by decide)) rfl) ?_
              refine XE.cast (hx762 _) ?_
              exact XE.rt rfl (X_zret (by decide +kernel) rfl (by decide))
          · refine XE.go (st_if_ne_t (off := 15) (pc' := 465) (by decide +kernel) (by decide) h825) ?_
            refine XE.go (st_goto (off := 2883) (pc' := 3348) (by decide +kernel) (by decide)) ?_
            refine XE.go (st_iinc (j := 4) (n := 6) (pc' := 3351) (by decide +kernel) rfl rfl (by decide) rfl rfl) ?_
            refine XE.go (st_goto (off := (-3328)) (pc' := 23) (by decide +kernel) (by decide)) ?_
            exact XE.pick [3, 4, 5, 6, 0] rfl (hc760 ((w (s9.1 + 6)), r820.2))
        · refine XE.go (st_icmp_eq_f (off := 5) (pc' := 446) (by decide +kernel) 448 (by decide) rfl h823) ?_
          refine XE.go (st_iconst (n := 0) (pc' := 447) (by decide +kernel) (w_eq (by decide) (by decide)) rfl) ?_
          refine XE.cast (hx762 _) ?_
          exact XE.rt rfl (X_zret (by decide +kernel) rfl (by decide))
      refine XE.bite (fun h829 => ?_) (fun h830 => ?_)
      · refine XE.go (st_tab_in (dflt := 3308) (lo := 0) (hi := 44) (offs := #[196, 292, 372, 428, 484, 540, 596, 652, 708, 752, 820, 912, 1004, 1108, 1176, 1232, 1312, 1368, 1424, 1480, 1536, 1604, 1672, 1752, 1820, 1900, 1980, 2048, 2128, 2196, 2264, 2332, 2412, 2480, 2548, 2640, 2720, 2800, 2892, 2972, 3040, 3108, 3164, 3232, 3295]) (len := 196) (off := 428) (pc' := 468) (by decide +kernel) 3 h829 (by decide) (by decide) (by decide) (by decide)) ?_
        unfold c_L_3
        refine XE.go (st_aload_n (j := 1) (i := 1) (pc' := 469) (by decide +kernel) rfl rfl (by decide) rfl) ?_
        refine XE.go (st_aload_n (j := 0) (i := 0) (pc' := 470) (by decide +kernel) rfl rfl (by decide) rfl) ?_
        refine XE.go (st_iload (j := 4) (pc' := 472) (by decide +kernel) rfl rfl) ?_
        refine XE.go (st_iconst (n := 1) (pc' := 473) (by decide +kernel) (w_eq (by decide) (by decide)) rfl) ?_
        refine XE.go (st_iadd (pc' := 474) (by decide +kernel) rfl) ?_
        refine XE.gdb (fun g831 => ?_)
        refine XE.go (st_sld (pc' := 475) (by decide +kernel) rfl g831.1 g831.2) ?_
        refine XE.go (st_aload_n (j := 3) (i := 3) (pc' := 476) (by decide +kernel) rfl rfl (by decide) rfl) ?_
        refine XE.asc ?_
        refine XE.cW1 (pc' := 479) (st := []) (fun r hr => ct_L_fail r hr) (fun r hr => run_S (st := []) (by decide +kernel) co_L_law_176 (ct_L_fail r hr) rfl rfl (Nat.le_of_ble_eq_true rfl)) rfl rfl (fun r832 => ?_)
        refine XE.go (st_istore (j := 5) (pc' := 481) (by decide +kernel)  rfl (by decide) rfl rfl) ?_
        refine XE.go (st_aload_n (j := 2) (i := 2) (pc' := 482) (by decide +kernel) rfl rfl (by decide) rfl) ?_
        refine XE.go (st_aload_n (j := 0) (i := 0) (pc' := 483) (by decide +kernel) rfl rfl (by decide) rfl) ?_
        refine XE.go (st_iload (j := 4) (pc' := 485) (by decide +kernel) rfl rfl) ?_
        refine XE.go (st_iconst (n := 1) (pc' := 486) (by decide +kernel) (w_eq (by decide) (by decide)) rfl) ?_
        refine XE.go (st_iadd (pc' := 487) (by decide +kernel) rfl) ?_
        refine XE.gdb (fun g833 => ?_)
        refine XE.go (st_sld (pc' := 488) (by decide +kernel) rfl g833.1 g833.2) ?_
        refine XE.asc ?_
        refine XE.cW (pc' := 491) (st := []) (fun r hr => ct_X11_fail h5 r hr) (fun r hr => run_V (st := []) (by decide +kernel) co_L_law_178 (ct_X11_fail h5 r hr) rfl h5 rfl rfl (Nat.le_of_ble_eq_true rfl)) rfl rfl (fun r834 => ?_)
        refine XE.go (st_istore (j := 6) (pc' := 493) (by decide +kernel)  rfl (by decide) rfl rfl) ?_
        refine XE.go (st_aload_n (j := 2) (i := 2) (pc' := 494) (by decide +kernel) rfl rfl (by decide) rfl) ?_
        refine XE.asc ?_
        refine XE.cP (pc' := 497) (st := []) (fun r hr => ct_X11_thrown h5 r hr) (fun r hr => run_V (st := []) (by decide +kernel) co_L_law_165 (ct_X11_thrown h5 r hr) rfl h5 rfl rfl (Nat.le_of_ble_eq_true rfl)) rfl rfl (fun r835 => ?_)
        refine XE.go (st_iload (j := 5) (pc' := 499) (by decide +kernel) rfl rfl) ?_
        refine XE.bite (fun h836 => ?_) (fun h837 => ?_)
        · refine XE.go (st_icmp_eq_t (off := 5) (pc' := 504) (by decide +kernel) (by decide) h836) ?_
          refine XE.go (st_iload (j := 5) (pc' := 506) (by decide +kernel) rfl rfl) ?_
          refine XE.bite (fun h838 => ?_) (fun h839 => ?_)
          · refine XE.go (st_if_ne_f (off := 15) (pc' := 509) (by decide +kernel) 521 (by decide) rfl (not_not_intro h838)) ?_
            refine XE.go (st_aload_n (j := 3) (i := 3) (pc' := 510) (by decide +kernel) rfl rfl (by decide) rfl) ?_
            refine XE.go (st_iconst (n := 0) (pc' := 511) (by decide +kernel) (w_eq (by decide) (by decide)) rfl) ?_
            refine XE.gdb (fun g840 => ?_)
            refine XE.go (st_ald (k := 15) (tp := 2) (pc' := 512) (by decide +kernel) rfl ak_15 rfl (by decide) rfl (Or.inr (Or.inr (Or.inl ⟨rfl, rfl⟩))) g840.1 g840.2.1 g840.2.2) ?_
            refine XE.go (st_iload (j := 6) (pc' := 514) (by decide +kernel) rfl rfl) ?_
            refine XE.go (st_i2l (pc' := 515) (by decide +kernel) rfl) ?_
            refine XE.go (st_lcmp (pc' := 516) (by decide +kernel) rfl) ?_
            refine XE.bite (fun h841 => ?_) (fun h842 => ?_)
            · refine XE.go (st_if_eq_t (off := 5) (pc' := 521) (by decide +kernel) (by decide) h841) ?_
              refine XE.go (st_goto (off := 2827) (pc' := 3348) (by decide +kernel) (by decide)) ?_
              refine XE.go (st_iinc (j := 4) (n := 6) (pc' := 3351) (by decide +kernel) rfl rfl (by decide) rfl rfl) ?_
              refine XE.go (st_goto (off := (-3328)) (pc' := 23) (by decide +kernel) (by decide)) ?_
              exact XE.pick [3, 4, 5, 6, 0] rfl (hc760 ((w (s9.1 + 6)), r834.2))
            · refine XE.go (st_if_eq_f (off := 5) (pc' := 519) (by decide +kernel) 521 (by decide) rfl h842) ?_
              refine XE.go (st_iconst (n := 0) (pc' := 520) (by decide +kernel) (w_eq (by decide) (by decide)) rfl) ?_
              refine XE.cast (hx762 _) ?_
              exact XE.rt rfl (X_zret (by decide +kernel) rfl (by decide))
          · refine XE.go (st_if_ne_t (off := 15) (pc' := 521) (by decide +kernel) (by decide) h839) ?_
            refine XE.go (st_goto (off := 2827) (pc' := 3348) (by decide +kernel) (by decide)) ?_
            refine XE.go (st_iinc (j := 4) (n := 6) (pc' := 3351) (by decide +kernel) rfl rfl (by decide) rfl rfl) ?_
            refine XE.go (st_goto (off := (-3328)) (pc' := 23) (by decide +kernel) (by decide)) ?_
            exact XE.pick [3, 4, 5, 6, 0] rfl (hc760 ((w (s9.1 + 6)), r834.2))
        · refine XE.go (st_icmp_eq_f (off := 5) (pc' := 502) (by decide +kernel) 504 (by decide) rfl h837) ?_
          refine XE.go (st_iconst (n := 0) (pc' := 503) (by decide +kernel) (w_eq (by decide) (by decide)) rfl) ?_
          refine XE.cast (hx762 _) ?_
          exact XE.rt rfl (X_zret (by decide +kernel) rfl (by decide))
      refine XE.bite (fun h843 => ?_) (fun h844 => ?_)
      · refine XE.go (st_tab_in (dflt := 3308) (lo := 0) (hi := 44) (offs := #[196, 292, 372, 428, 484, 540, 596, 652, 708, 752, 820, 912, 1004, 1108, 1176, 1232, 1312, 1368, 1424, 1480, 1536, 1604, 1672, 1752, 1820, 1900, 1980, 2048, 2128, 2196, 2264, 2332, 2412, 2480, 2548, 2640, 2720, 2800, 2892, 2972, 3040, 3108, 3164, 3232, 3295]) (len := 196) (off := 484) (pc' := 524) (by decide +kernel) 4 h843 (by decide) (by decide) (by decide) (by decide)) ?_
        unfold c_L_4
        refine XE.go (st_aload_n (j := 1) (i := 1) (pc' := 525) (by decide +kernel) rfl rfl (by decide) rfl) ?_
        refine XE.go (st_aload_n (j := 0) (i := 0) (pc' := 526) (by decide +kernel) rfl rfl (by decide) rfl) ?_
        refine XE.go (st_iload (j := 4) (pc' := 528) (by decide +kernel) rfl rfl) ?_
        refine XE.go (st_iconst (n := 1) (pc' := 529) (by decide +kernel) (w_eq (by decide) (by decide)) rfl) ?_
        refine XE.go (st_iadd (pc' := 530) (by decide +kernel) rfl) ?_
        refine XE.gdb (fun g845 => ?_)
        refine XE.go (st_sld (pc' := 531) (by decide +kernel) rfl g845.1 g845.2) ?_
        refine XE.go (st_aload_n (j := 3) (i := 3) (pc' := 532) (by decide +kernel) rfl rfl (by decide) rfl) ?_
        refine XE.asc ?_
        refine XE.cW1 (pc' := 535) (st := []) (fun r hr => ct_L_restore r hr) (fun r hr => run_S (st := []) (by decide +kernel) co_L_law_179 (ct_L_restore r hr) rfl rfl (Nat.le_of_ble_eq_true rfl)) rfl rfl (fun r846 => ?_)
        refine XE.go (st_istore (j := 5) (pc' := 537) (by decide +kernel)  rfl (by decide) rfl rfl) ?_
        refine XE.go (st_aload_n (j := 2) (i := 2) (pc' := 538) (by decide +kernel) rfl rfl (by decide) rfl) ?_
        refine XE.go (st_aload_n (j := 0) (i := 0) (pc' := 539) (by decide +kernel) rfl rfl (by decide) rfl) ?_
        refine XE.go (st_iload (j := 4) (pc' := 541) (by decide +kernel) rfl rfl) ?_
        refine XE.go (st_iconst (n := 1) (pc' := 542) (by decide +kernel) (w_eq (by decide) (by decide)) rfl) ?_
        refine XE.go (st_iadd (pc' := 543) (by decide +kernel) rfl) ?_
        refine XE.gdb (fun g847 => ?_)
        refine XE.go (st_sld (pc' := 544) (by decide +kernel) rfl g847.1 g847.2) ?_
        refine XE.asc ?_
        refine XE.cW (pc' := 547) (st := []) (fun r hr => ct_X11_restore h5 r hr) (fun r hr => run_V (st := []) (by decide +kernel) co_L_law_181 (ct_X11_restore h5 r hr) rfl h5 rfl rfl (Nat.le_of_ble_eq_true rfl)) rfl rfl (fun r848 => ?_)
        refine XE.go (st_istore (j := 6) (pc' := 549) (by decide +kernel)  rfl (by decide) rfl rfl) ?_
        refine XE.go (st_aload_n (j := 2) (i := 2) (pc' := 550) (by decide +kernel) rfl rfl (by decide) rfl) ?_
        refine XE.asc ?_
        refine XE.cP (pc' := 553) (st := []) (fun r hr => ct_X11_thrown h5 r hr) (fun r hr => run_V (st := []) (by decide +kernel) co_L_law_165 (ct_X11_thrown h5 r hr) rfl h5 rfl rfl (Nat.le_of_ble_eq_true rfl)) rfl rfl (fun r849 => ?_)
        refine XE.go (st_iload (j := 5) (pc' := 555) (by decide +kernel) rfl rfl) ?_
        refine XE.bite (fun h850 => ?_) (fun h851 => ?_)
        · refine XE.go (st_icmp_eq_t (off := 5) (pc' := 560) (by decide +kernel) (by decide) h850) ?_
          refine XE.go (st_iload (j := 5) (pc' := 562) (by decide +kernel) rfl rfl) ?_
          refine XE.bite (fun h852 => ?_) (fun h853 => ?_)
          · refine XE.go (st_if_ne_f (off := 15) (pc' := 565) (by decide +kernel) 577 (by decide) rfl (not_not_intro h852)) ?_
            refine XE.go (st_aload_n (j := 3) (i := 3) (pc' := 566) (by decide +kernel) rfl rfl (by decide) rfl) ?_
            refine XE.go (st_iconst (n := 0) (pc' := 567) (by decide +kernel) (w_eq (by decide) (by decide)) rfl) ?_
            refine XE.gdb (fun g854 => ?_)
            refine XE.go (st_ald (k := 15) (tp := 2) (pc' := 568) (by decide +kernel) rfl ak_15 rfl (by decide) rfl (Or.inr (Or.inr (Or.inl ⟨rfl, rfl⟩))) g854.1 g854.2.1 g854.2.2) ?_
            refine XE.go (st_iload (j := 6) (pc' := 570) (by decide +kernel) rfl rfl) ?_
            refine XE.go (st_i2l (pc' := 571) (by decide +kernel) rfl) ?_
            refine XE.go (st_lcmp (pc' := 572) (by decide +kernel) rfl) ?_
            refine XE.bite (fun h855 => ?_) (fun h856 => ?_)
            · refine XE.go (st_if_eq_t (off := 5) (pc' := 577) (by decide +kernel) (by decide) h855) ?_
              refine XE.go (st_goto (off := 2771) (pc' := 3348) (by decide +kernel) (by decide)) ?_
              refine XE.go (st_iinc (j := 4) (n := 6) (pc' := 3351) (by decide +kernel) rfl rfl (by decide) rfl rfl) ?_
              refine XE.go (st_goto (off := (-3328)) (pc' := 23) (by decide +kernel) (by decide)) ?_
              exact XE.pick [3, 4, 5, 6, 0] rfl (hc760 ((w (s9.1 + 6)), r848.2))
            · refine XE.go (st_if_eq_f (off := 5) (pc' := 575) (by decide +kernel) 577 (by decide) rfl h856) ?_
              refine XE.go (st_iconst (n := 0) (pc' := 576) (by decide +kernel) (w_eq (by decide) (by decide)) rfl) ?_
              refine XE.cast (hx762 _) ?_
              exact XE.rt rfl (X_zret (by decide +kernel) rfl (by decide))
          · refine XE.go (st_if_ne_t (off := 15) (pc' := 577) (by decide +kernel) (by decide) h853) ?_
            refine XE.go (st_goto (off := 2771) (pc' := 3348) (by decide +kernel) (by decide)) ?_
            refine XE.go (st_iinc (j := 4) (n := 6) (pc' := 3351) (by decide +kernel) rfl rfl (by decide) rfl rfl) ?_
            refine XE.go (st_goto (off := (-3328)) (pc' := 23) (by decide +kernel) (by decide)) ?_
            exact XE.pick [3, 4, 5, 6, 0] rfl (hc760 ((w (s9.1 + 6)), r848.2))
        · refine XE.go (st_icmp_eq_f (off := 5) (pc' := 558) (by decide +kernel) 560 (by decide) rfl h851) ?_
          refine XE.go (st_iconst (n := 0) (pc' := 559) (by decide +kernel) (w_eq (by decide) (by decide)) rfl) ?_
          refine XE.cast (hx762 _) ?_
          exact XE.rt rfl (X_zret (by decide +kernel) rfl (by decide))
      refine XE.bite (fun h857 => ?_) (fun h858 => ?_)
      · refine XE.go (st_tab_in (dflt := 3308) (lo := 0) (hi := 44) (offs := #[196, 292, 372, 428, 484, 540, 596, 652, 708, 752, 820, 912, 1004, 1108, 1176, 1232, 1312, 1368, 1424, 1480, 1536, 1604, 1672, 1752, 1820, 1900, 1980, 2048, 2128, 2196, 2264, 2332, 2412, 2480, 2548, 2640, 2720, 2800, 2892, 2972, 3040, 3108, 3164, 3232, 3295]) (len := 196) (off := 540) (pc' := 580) (by decide +kernel) 5 h857 (by decide) (by decide) (by decide) (by decide)) ?_
        unfold c_L_5
        refine XE.go (st_aload_n (j := 1) (i := 1) (pc' := 581) (by decide +kernel) rfl rfl (by decide) rfl) ?_
        refine XE.go (st_aload_n (j := 0) (i := 0) (pc' := 582) (by decide +kernel) rfl rfl (by decide) rfl) ?_
        refine XE.go (st_iload (j := 4) (pc' := 584) (by decide +kernel) rfl rfl) ?_
        refine XE.go (st_iconst (n := 1) (pc' := 585) (by decide +kernel) (w_eq (by decide) (by decide)) rfl) ?_
        refine XE.go (st_iadd (pc' := 586) (by decide +kernel) rfl) ?_
        refine XE.gdb (fun g859 => ?_)
        refine XE.go (st_sld (pc' := 587) (by decide +kernel) rfl g859.1 g859.2) ?_
        refine XE.go (st_aload_n (j := 3) (i := 3) (pc' := 588) (by decide +kernel) rfl rfl (by decide) rfl) ?_
        refine XE.asc ?_
        refine XE.cW1 (pc' := 591) (st := []) (fun r hr => ct_L_fetch r hr) (fun r hr => run_S (st := []) (by decide +kernel) co_L_law_182 (ct_L_fetch r hr) rfl rfl (Nat.le_of_ble_eq_true rfl)) rfl rfl (fun r860 => ?_)
        refine XE.go (st_istore (j := 5) (pc' := 593) (by decide +kernel)  rfl (by decide) rfl rfl) ?_
        refine XE.go (st_aload_n (j := 2) (i := 2) (pc' := 594) (by decide +kernel) rfl rfl (by decide) rfl) ?_
        refine XE.go (st_aload_n (j := 0) (i := 0) (pc' := 595) (by decide +kernel) rfl rfl (by decide) rfl) ?_
        refine XE.go (st_iload (j := 4) (pc' := 597) (by decide +kernel) rfl rfl) ?_
        refine XE.go (st_iconst (n := 1) (pc' := 598) (by decide +kernel) (w_eq (by decide) (by decide)) rfl) ?_
        refine XE.go (st_iadd (pc' := 599) (by decide +kernel) rfl) ?_
        refine XE.gdb (fun g861 => ?_)
        refine XE.go (st_sld (pc' := 600) (by decide +kernel) rfl g861.1 g861.2) ?_
        refine XE.asc ?_
        refine XE.cW (pc' := 603) (st := []) (fun r hr => ct_X11_fetch h5 r hr) (fun r hr => run_V (st := []) (by decide +kernel) co_L_law_184 (ct_X11_fetch h5 r hr) rfl h5 rfl rfl (Nat.le_of_ble_eq_true rfl)) rfl rfl (fun r862 => ?_)
        refine XE.go (st_istore (j := 6) (pc' := 605) (by decide +kernel)  rfl (by decide) rfl rfl) ?_
        refine XE.go (st_aload_n (j := 2) (i := 2) (pc' := 606) (by decide +kernel) rfl rfl (by decide) rfl) ?_
        refine XE.asc ?_
        refine XE.cP (pc' := 609) (st := []) (fun r hr => ct_X11_thrown h5 r hr) (fun r hr => run_V (st := []) (by decide +kernel) co_L_law_165 (ct_X11_thrown h5 r hr) rfl h5 rfl rfl (Nat.le_of_ble_eq_true rfl)) rfl rfl (fun r863 => ?_)
        refine XE.go (st_iload (j := 5) (pc' := 611) (by decide +kernel) rfl rfl) ?_
        refine XE.bite (fun h864 => ?_) (fun h865 => ?_)
        · refine XE.go (st_icmp_eq_t (off := 5) (pc' := 616) (by decide +kernel) (by decide) h864) ?_
          refine XE.go (st_iload (j := 5) (pc' := 618) (by decide +kernel) rfl rfl) ?_
          refine XE.bite (fun h866 => ?_) (fun h867 => ?_)
          · refine XE.go (st_if_ne_f (off := 15) (pc' := 621) (by decide +kernel) 633 (by decide) rfl (not_not_intro h866)) ?_
            refine XE.go (st_aload_n (j := 3) (i := 3) (pc' := 622) (by decide +kernel) rfl rfl (by decide) rfl) ?_
            refine XE.go (st_iconst (n := 0) (pc' := 623) (by decide +kernel) (w_eq (by decide) (by decide)) rfl) ?_
            refine XE.gdb (fun g868 => ?_)
            refine XE.go (st_ald (k := 15) (tp := 2) (pc' := 624) (by decide +kernel) rfl ak_15 rfl (by decide) rfl (Or.inr (Or.inr (Or.inl ⟨rfl, rfl⟩))) g868.1 g868.2.1 g868.2.2) ?_
            refine XE.go (st_iload (j := 6) (pc' := 626) (by decide +kernel) rfl rfl) ?_
            refine XE.go (st_i2l (pc' := 627) (by decide +kernel) rfl) ?_
            refine XE.go (st_lcmp (pc' := 628) (by decide +kernel) rfl) ?_
            refine XE.bite (fun h869 => ?_) (fun h870 => ?_)
            · refine XE.go (st_if_eq_t (off := 5) (pc' := 633) (by decide +kernel) (by decide) h869) ?_
              refine XE.go (st_goto (off := 2715) (pc' := 3348) (by decide +kernel) (by decide)) ?_
              refine XE.go (st_iinc (j := 4) (n := 6) (pc' := 3351) (by decide +kernel) rfl rfl (by decide) rfl rfl) ?_
              refine XE.go (st_goto (off := (-3328)) (pc' := 23) (by decide +kernel) (by decide)) ?_
              exact XE.pick [3, 4, 5, 6, 0] rfl (hc760 ((w (s9.1 + 6)), r862.2))
            · refine XE.go (st_if_eq_f (off := 5) (pc' := 631) (by decide +kernel) 633 (by decide) rfl h870) ?_
              refine XE.go (st_iconst (n := 0) (pc' := 632) (by decide +kernel) (w_eq (by decide) (by decide)) rfl) ?_
              refine XE.cast (hx762 _) ?_
              exact XE.rt rfl (X_zret (by decide +kernel) rfl (by decide))
          · refine XE.go (st_if_ne_t (off := 15) (pc' := 633) (by decide +kernel) (by decide) h867) ?_
            refine XE.go (st_goto (off := 2715) (pc' := 3348) (by decide +kernel) (by decide)) ?_
            refine XE.go (st_iinc (j := 4) (n := 6) (pc' := 3351) (by decide +kernel) rfl rfl (by decide) rfl rfl) ?_
            refine XE.go (st_goto (off := (-3328)) (pc' := 23) (by decide +kernel) (by decide)) ?_
            exact XE.pick [3, 4, 5, 6, 0] rfl (hc760 ((w (s9.1 + 6)), r862.2))
        · refine XE.go (st_icmp_eq_f (off := 5) (pc' := 614) (by decide +kernel) 616 (by decide) rfl h865) ?_
          refine XE.go (st_iconst (n := 0) (pc' := 615) (by decide +kernel) (w_eq (by decide) (by decide)) rfl) ?_
          refine XE.cast (hx762 _) ?_
          exact XE.rt rfl (X_zret (by decide +kernel) rfl (by decide))
      refine XE.bite (fun h871 => ?_) (fun h872 => ?_)
      · refine XE.go (st_tab_in (dflt := 3308) (lo := 0) (hi := 44) (offs := #[196, 292, 372, 428, 484, 540, 596, 652, 708, 752, 820, 912, 1004, 1108, 1176, 1232, 1312, 1368, 1424, 1480, 1536, 1604, 1672, 1752, 1820, 1900, 1980, 2048, 2128, 2196, 2264, 2332, 2412, 2480, 2548, 2640, 2720, 2800, 2892, 2972, 3040, 3108, 3164, 3232, 3295]) (len := 196) (off := 596) (pc' := 636) (by decide +kernel) 6 h871 (by decide) (by decide) (by decide) (by decide)) ?_
        unfold c_L_6
        refine XE.go (st_aload_n (j := 1) (i := 1) (pc' := 637) (by decide +kernel) rfl rfl (by decide) rfl) ?_
        refine XE.go (st_aload_n (j := 0) (i := 0) (pc' := 638) (by decide +kernel) rfl rfl (by decide) rfl) ?_
        refine XE.go (st_iload (j := 4) (pc' := 640) (by decide +kernel) rfl rfl) ?_
        refine XE.go (st_iconst (n := 1) (pc' := 641) (by decide +kernel) (w_eq (by decide) (by decide)) rfl) ?_
        refine XE.go (st_iadd (pc' := 642) (by decide +kernel) rfl) ?_
        refine XE.gdb (fun g873 => ?_)
        refine XE.go (st_sld (pc' := 643) (by decide +kernel) rfl g873.1 g873.2) ?_
        refine XE.go (st_aload_n (j := 3) (i := 3) (pc' := 644) (by decide +kernel) rfl rfl (by decide) rfl) ?_
        refine XE.asc ?_
        refine XE.cW1 (pc' := 647) (st := []) (fun r hr => ct_L_speed r hr) (fun r hr => run_S (st := []) (by decide +kernel) co_L_law_185 (ct_L_speed r hr) rfl rfl (Nat.le_of_ble_eq_true rfl)) rfl rfl (fun r874 => ?_)
        refine XE.go (st_istore (j := 5) (pc' := 649) (by decide +kernel)  rfl (by decide) rfl rfl) ?_
        refine XE.go (st_aload_n (j := 2) (i := 2) (pc' := 650) (by decide +kernel) rfl rfl (by decide) rfl) ?_
        refine XE.go (st_aload_n (j := 0) (i := 0) (pc' := 651) (by decide +kernel) rfl rfl (by decide) rfl) ?_
        refine XE.go (st_iload (j := 4) (pc' := 653) (by decide +kernel) rfl rfl) ?_
        refine XE.go (st_iconst (n := 1) (pc' := 654) (by decide +kernel) (w_eq (by decide) (by decide)) rfl) ?_
        refine XE.go (st_iadd (pc' := 655) (by decide +kernel) rfl) ?_
        refine XE.gdb (fun g875 => ?_)
        refine XE.go (st_sld (pc' := 656) (by decide +kernel) rfl g875.1 g875.2) ?_
        refine XE.asc ?_
        refine XE.cW (pc' := 659) (st := []) (fun r hr => ct_X11_speed h5 r hr) (fun r hr => run_V (st := []) (by decide +kernel) co_L_law_187 (ct_X11_speed h5 r hr) rfl h5 rfl rfl (Nat.le_of_ble_eq_true rfl)) rfl rfl (fun r876 => ?_)
        refine XE.go (st_istore (j := 6) (pc' := 661) (by decide +kernel)  rfl (by decide) rfl rfl) ?_
        refine XE.go (st_aload_n (j := 2) (i := 2) (pc' := 662) (by decide +kernel) rfl rfl (by decide) rfl) ?_
        refine XE.asc ?_
        refine XE.cP (pc' := 665) (st := []) (fun r hr => ct_X11_thrown h5 r hr) (fun r hr => run_V (st := []) (by decide +kernel) co_L_law_165 (ct_X11_thrown h5 r hr) rfl h5 rfl rfl (Nat.le_of_ble_eq_true rfl)) rfl rfl (fun r877 => ?_)
        refine XE.go (st_iload (j := 5) (pc' := 667) (by decide +kernel) rfl rfl) ?_
        refine XE.bite (fun h878 => ?_) (fun h879 => ?_)
        · refine XE.go (st_icmp_eq_t (off := 5) (pc' := 672) (by decide +kernel) (by decide) h878) ?_
          refine XE.go (st_iload (j := 5) (pc' := 674) (by decide +kernel) rfl rfl) ?_
          refine XE.bite (fun h880 => ?_) (fun h881 => ?_)
          · refine XE.go (st_if_ne_f (off := 15) (pc' := 677) (by decide +kernel) 689 (by decide) rfl (not_not_intro h880)) ?_
            refine XE.go (st_aload_n (j := 3) (i := 3) (pc' := 678) (by decide +kernel) rfl rfl (by decide) rfl) ?_
            refine XE.go (st_iconst (n := 0) (pc' := 679) (by decide +kernel) (w_eq (by decide) (by decide)) rfl) ?_
            refine XE.gdb (fun g882 => ?_)
            refine XE.go (st_ald (k := 15) (tp := 2) (pc' := 680) (by decide +kernel) rfl ak_15 rfl (by decide) rfl (Or.inr (Or.inr (Or.inl ⟨rfl, rfl⟩))) g882.1 g882.2.1 g882.2.2) ?_
            refine XE.go (st_iload (j := 6) (pc' := 682) (by decide +kernel) rfl rfl) ?_
            refine XE.go (st_i2l (pc' := 683) (by decide +kernel) rfl) ?_
            refine XE.go (st_lcmp (pc' := 684) (by decide +kernel) rfl) ?_
            refine XE.bite (fun h883 => ?_) (fun h884 => ?_)
            · refine XE.go (st_if_eq_t (off := 5) (pc' := 689) (by decide +kernel) (by decide) h883) ?_
              refine XE.go (st_goto (off := 2659) (pc' := 3348) (by decide +kernel) (by decide)) ?_
              refine XE.go (st_iinc (j := 4) (n := 6) (pc' := 3351) (by decide +kernel) rfl rfl (by decide) rfl rfl) ?_
              refine XE.go (st_goto (off := (-3328)) (pc' := 23) (by decide +kernel) (by decide)) ?_
              exact XE.pick [3, 4, 5, 6, 0] rfl (hc760 ((w (s9.1 + 6)), r876.2))
            · refine XE.go (st_if_eq_f (off := 5) (pc' := 687) (by decide +kernel) 689 (by decide) rfl h884) ?_
              refine XE.go (st_iconst (n := 0) (pc' := 688) (by decide +kernel) (w_eq (by decide) (by decide)) rfl) ?_
              refine XE.cast (hx762 _) ?_
              exact XE.rt rfl (X_zret (by decide +kernel) rfl (by decide))
          · refine XE.go (st_if_ne_t (off := 15) (pc' := 689) (by decide +kernel) (by decide) h881) ?_
            refine XE.go (st_goto (off := 2659) (pc' := 3348) (by decide +kernel) (by decide)) ?_
            refine XE.go (st_iinc (j := 4) (n := 6) (pc' := 3351) (by decide +kernel) rfl rfl (by decide) rfl rfl) ?_
            refine XE.go (st_goto (off := (-3328)) (pc' := 23) (by decide +kernel) (by decide)) ?_
            exact XE.pick [3, 4, 5, 6, 0] rfl (hc760 ((w (s9.1 + 6)), r876.2))
        · refine XE.go (st_icmp_eq_f (off := 5) (pc' := 670) (by decide +kernel) 672 (by decide) rfl h879) ?_
          refine XE.go (st_iconst (n := 0) (pc' := 671) (by decide +kernel) (w_eq (by decide) (by decide)) rfl) ?_
          refine XE.cast (hx762 _) ?_
          exact XE.rt rfl (X_zret (by decide +kernel) rfl (by decide))
      refine XE.bite (fun h885 => ?_) (fun h886 => ?_)
      · refine XE.go (st_tab_in (dflt := 3308) (lo := 0) (hi := 44) (offs := #[196, 292, 372, 428, 484, 540, 596, 652, 708, 752, 820, 912, 1004, 1108, 1176, 1232, 1312, 1368, 1424, 1480, 1536, 1604, 1672, 1752, 1820, 1900, 1980, 2048, 2128, 2196, 2264, 2332, 2412, 2480, 2548, 2640, 2720, 2800, 2892, 2972, 3040, 3108, 3164, 3232, 3295]) (len := 196) (off := 652) (pc' := 692) (by decide +kernel) 7 h885 (by decide) (by decide) (by decide) (by decide)) ?_
        unfold c_L_7
        refine XE.go (st_aload_n (j := 1) (i := 1) (pc' := 693) (by decide +kernel) rfl rfl (by decide) rfl) ?_
        refine XE.go (st_aload_n (j := 0) (i := 0) (pc' := 694) (by decide +kernel) rfl rfl (by decide) rfl) ?_
        refine XE.go (st_iload (j := 4) (pc' := 696) (by decide +kernel) rfl rfl) ?_
        refine XE.go (st_iconst (n := 1) (pc' := 697) (by decide +kernel) (w_eq (by decide) (by decide)) rfl) ?_
        refine XE.go (st_iadd (pc' := 698) (by decide +kernel) rfl) ?_
        refine XE.gdb (fun g887 => ?_)
        refine XE.go (st_sld (pc' := 699) (by decide +kernel) rfl g887.1 g887.2) ?_
        refine XE.go (st_aload_n (j := 3) (i := 3) (pc' := 700) (by decide +kernel) rfl rfl (by decide) rfl) ?_
        refine XE.asc ?_
        refine XE.cW1 (pc' := 703) (st := []) (fun r hr => ct_L_tick r hr) (fun r hr => run_S (st := []) (by decide +kernel) co_L_law_188 (ct_L_tick r hr) rfl rfl (Nat.le_of_ble_eq_true rfl)) rfl rfl (fun r888 => ?_)
        refine XE.go (st_istore (j := 5) (pc' := 705) (by decide +kernel)  rfl (by decide) rfl rfl) ?_
        refine XE.go (st_aload_n (j := 2) (i := 2) (pc' := 706) (by decide +kernel) rfl rfl (by decide) rfl) ?_
        refine XE.go (st_aload_n (j := 0) (i := 0) (pc' := 707) (by decide +kernel) rfl rfl (by decide) rfl) ?_
        refine XE.go (st_iload (j := 4) (pc' := 709) (by decide +kernel) rfl rfl) ?_
        refine XE.go (st_iconst (n := 1) (pc' := 710) (by decide +kernel) (w_eq (by decide) (by decide)) rfl) ?_
        refine XE.go (st_iadd (pc' := 711) (by decide +kernel) rfl) ?_
        refine XE.gdb (fun g889 => ?_)
        refine XE.go (st_sld (pc' := 712) (by decide +kernel) rfl g889.1 g889.2) ?_
        refine XE.asc ?_
        refine XE.cW (pc' := 715) (st := []) (fun r hr => ct_X11_tick h5 r hr) (fun r hr => run_V (st := []) (by decide +kernel) co_L_law_190 (ct_X11_tick h5 r hr) rfl h5 rfl rfl (Nat.le_of_ble_eq_true rfl)) rfl rfl (fun r890 => ?_)
        refine XE.go (st_istore (j := 6) (pc' := 717) (by decide +kernel)  rfl (by decide) rfl rfl) ?_
        refine XE.go (st_aload_n (j := 2) (i := 2) (pc' := 718) (by decide +kernel) rfl rfl (by decide) rfl) ?_
        refine XE.asc ?_
        refine XE.cP (pc' := 721) (st := []) (fun r hr => ct_X11_thrown h5 r hr) (fun r hr => run_V (st := []) (by decide +kernel) co_L_law_165 (ct_X11_thrown h5 r hr) rfl h5 rfl rfl (Nat.le_of_ble_eq_true rfl)) rfl rfl (fun r891 => ?_)
        refine XE.go (st_iload (j := 5) (pc' := 723) (by decide +kernel) rfl rfl) ?_
        refine XE.bite (fun h892 => ?_) (fun h893 => ?_)
        · refine XE.go (st_icmp_eq_t (off := 5) (pc' := 728) (by decide +kernel) (by decide) h892) ?_
          refine XE.go (st_iload (j := 5) (pc' := 730) (by decide +kernel) rfl rfl) ?_
          refine XE.bite (fun h894 => ?_) (fun h895 => ?_)
          · refine XE.go (st_if_ne_f (off := 15) (pc' := 733) (by decide +kernel) 745 (by decide) rfl (not_not_intro h894)) ?_
            refine XE.go (st_aload_n (j := 3) (i := 3) (pc' := 734) (by decide +kernel) rfl rfl (by decide) rfl) ?_
            refine XE.go (st_iconst (n := 0) (pc' := 735) (by decide +kernel) (w_eq (by decide) (by decide)) rfl) ?_
            refine XE.gdb (fun g896 => ?_)
            refine XE.go (st_ald (k := 15) (tp := 2) (pc' := 736) (by decide +kernel) rfl ak_15 rfl (by decide) rfl (Or.inr (Or.inr (Or.inl ⟨rfl, rfl⟩))) g896.1 g896.2.1 g896.2.2) ?_
            refine XE.go (st_iload (j := 6) (pc' := 738) (by decide +kernel) rfl rfl) ?_
            refine XE.go (st_i2l (pc' := 739) (by decide +kernel) rfl) ?_
            refine XE.go (st_lcmp (pc' := 740) (by decide +kernel) rfl) ?_
            refine XE.bite (fun h897 => ?_) (fun h898 => ?_)
            · refine XE.go (st_if_eq_t (off := 5) (pc' := 745) (by decide +kernel) (by decide) h897) ?_
              refine XE.go (st_goto (off := 2603) (pc' := 3348) (by decide +kernel) (by decide)) ?_
              refine XE.go (st_iinc (j := 4) (n := 6) (pc' := 3351) (by decide +kernel) rfl rfl (by decide) rfl rfl) ?_
              refine XE.go (st_goto (off := (-3328)) (pc' := 23) (by decide +kernel) (by decide)) ?_
              exact XE.pick [3, 4, 5, 6, 0] rfl (hc760 ((w (s9.1 + 6)), r890.2))
            · refine XE.go (st_if_eq_f (off := 5) (pc' := 743) (by decide +kernel) 745 (by decide) rfl h898) ?_
              refine XE.go (st_iconst (n := 0) (pc' := 744) (by decide +kernel) (w_eq (by decide) (by decide)) rfl) ?_
              refine XE.cast (hx762 _) ?_
              exact XE.rt rfl (X_zret (by decide +kernel) rfl (by decide))
          · refine XE.go (st_if_ne_t (off := 15) (pc' := 745) (by decide +kernel) (by decide) h895) ?_
            refine XE.go (st_goto (off := 2603) (pc' := 3348) (by decide +kernel) (by decide)) ?_
            refine XE.go (st_iinc (j := 4) (n := 6) (pc' := 3351) (by decide +kernel) rfl rfl (by decide) rfl rfl) ?_
            refine XE.go (st_goto (off := (-3328)) (pc' := 23) (by decide +kernel) (by decide)) ?_
            exact XE.pick [3, 4, 5, 6, 0] rfl (hc760 ((w (s9.1 + 6)), r890.2))
        · refine XE.go (st_icmp_eq_f (off := 5) (pc' := 726) (by decide +kernel) 728 (by decide) rfl h893) ?_
          refine XE.go (st_iconst (n := 0) (pc' := 727) (by decide +kernel) (w_eq (by decide) (by decide)) rfl) ?_
          refine XE.cast (hx762 _) ?_
          exact XE.rt rfl (X_zret (by decide +kernel) rfl (by decide))
      refine XE.bite (fun h899 => ?_) (fun h900 => ?_)
      · refine XE.go (st_tab_in (dflt := 3308) (lo := 0) (hi := 44) (offs := #[196, 292, 372, 428, 484, 540, 596, 652, 708, 752, 820, 912, 1004, 1108, 1176, 1232, 1312, 1368, 1424, 1480, 1536, 1604, 1672, 1752, 1820, 1900, 1980, 2048, 2128, 2196, 2264, 2332, 2412, 2480, 2548, 2640, 2720, 2800, 2892, 2972, 3040, 3108, 3164, 3232, 3295]) (len := 196) (off := 708) (pc' := 748) (by decide +kernel) 8 h899 (by decide) (by decide) (by decide) (by decide)) ?_
        unfold c_L_8
        refine XE.go (st_aload_n (j := 1) (i := 1) (pc' := 749) (by decide +kernel) rfl rfl (by decide) rfl) ?_
        refine XE.go (st_aload_n (j := 3) (i := 3) (pc' := 750) (by decide +kernel) rfl rfl (by decide) rfl) ?_
        refine XE.asc ?_
        refine XE.cW1 (pc' := 753) (st := []) (fun r hr => ct_L_producer r hr) (fun r hr => run_S (st := []) (by decide +kernel) co_L_law_191 (ct_L_producer r hr) rfl rfl (Nat.le_of_ble_eq_true rfl)) rfl rfl (fun r901 => ?_)
        refine XE.go (st_istore (j := 5) (pc' := 755) (by decide +kernel)  rfl (by decide) rfl rfl) ?_
        refine XE.go (st_aload_n (j := 2) (i := 2) (pc' := 756) (by decide +kernel) rfl rfl (by decide) rfl) ?_
        refine XE.asc ?_
        refine XE.cW (pc' := 759) (st := []) (fun r hr => ct_X11_producer h5 r hr) (fun r hr => run_V (st := []) (by decide +kernel) co_L_law_194 (ct_X11_producer h5 r hr) rfl h5 rfl rfl (Nat.le_of_ble_eq_true rfl)) rfl rfl (fun r902 => ?_)
        refine XE.go (st_istore (j := 6) (pc' := 761) (by decide +kernel)  rfl (by decide) rfl rfl) ?_
        refine XE.go (st_aload_n (j := 2) (i := 2) (pc' := 762) (by decide +kernel) rfl rfl (by decide) rfl) ?_
        refine XE.asc ?_
        refine XE.cP (pc' := 765) (st := []) (fun r hr => ct_X11_thrown h5 r hr) (fun r hr => run_V (st := []) (by decide +kernel) co_L_law_165 (ct_X11_thrown h5 r hr) rfl h5 rfl rfl (Nat.le_of_ble_eq_true rfl)) rfl rfl (fun r903 => ?_)
        refine XE.go (st_iload (j := 5) (pc' := 767) (by decide +kernel) rfl rfl) ?_
        refine XE.bite (fun h904 => ?_) (fun h905 => ?_)
        · refine XE.go (st_icmp_eq_t (off := 5) (pc' := 772) (by decide +kernel) (by decide) h904) ?_
          refine XE.go (st_iload (j := 5) (pc' := 774) (by decide +kernel) rfl rfl) ?_
          refine XE.bite (fun h906 => ?_) (fun h907 => ?_)
          · refine XE.go (st_if_ne_f (off := 15) (pc' := 777) (by decide +kernel) 789 (by decide) rfl (not_not_intro h906)) ?_
            refine XE.go (st_aload_n (j := 3) (i := 3) (pc' := 778) (by decide +kernel) rfl rfl (by decide) rfl) ?_
            refine XE.go (st_iconst (n := 0) (pc' := 779) (by decide +kernel) (w_eq (by decide) (by decide)) rfl) ?_
            refine XE.gdb (fun g908 => ?_)
            refine XE.go (st_ald (k := 15) (tp := 2) (pc' := 780) (by decide +kernel) rfl ak_15 rfl (by decide) rfl (Or.inr (Or.inr (Or.inl ⟨rfl, rfl⟩))) g908.1 g908.2.1 g908.2.2) ?_
            refine XE.go (st_iload (j := 6) (pc' := 782) (by decide +kernel) rfl rfl) ?_
            refine XE.go (st_i2l (pc' := 783) (by decide +kernel) rfl) ?_
            refine XE.go (st_lcmp (pc' := 784) (by decide +kernel) rfl) ?_
            refine XE.bite (fun h909 => ?_) (fun h910 => ?_)
            · refine XE.go (st_if_eq_t (off := 5) (pc' := 789) (by decide +kernel) (by decide) h909) ?_
              refine XE.go (st_goto (off := 2559) (pc' := 3348) (by decide +kernel) (by decide)) ?_
              refine XE.go (st_iinc (j := 4) (n := 6) (pc' := 3351) (by decide +kernel) rfl rfl (by decide) rfl rfl) ?_
              refine XE.go (st_goto (off := (-3328)) (pc' := 23) (by decide +kernel) (by decide)) ?_
              exact XE.pick [3, 4, 5, 6, 0] rfl (hc760 ((w (s9.1 + 6)), r902.2))
            · refine XE.go (st_if_eq_f (off := 5) (pc' := 787) (by decide +kernel) 789 (by decide) rfl h910) ?_
              refine XE.go (st_iconst (n := 0) (pc' := 788) (by decide +kernel) (w_eq (by decide) (by decide)) rfl) ?_
              refine XE.cast (hx762 _) ?_
              exact XE.rt rfl (X_zret (by decide +kernel) rfl (by decide))
          · refine XE.go (st_if_ne_t (off := 15) (pc' := 789) (by decide +kernel) (by decide) h907) ?_
            refine XE.go (st_goto (off := 2559) (pc' := 3348) (by decide +kernel) (by decide)) ?_
            refine XE.go (st_iinc (j := 4) (n := 6) (pc' := 3351) (by decide +kernel) rfl rfl (by decide) rfl rfl) ?_
            refine XE.go (st_goto (off := (-3328)) (pc' := 23) (by decide +kernel) (by decide)) ?_
            exact XE.pick [3, 4, 5, 6, 0] rfl (hc760 ((w (s9.1 + 6)), r902.2))
        · refine XE.go (st_icmp_eq_f (off := 5) (pc' := 770) (by decide +kernel) 772 (by decide) rfl h905) ?_
          refine XE.go (st_iconst (n := 0) (pc' := 771) (by decide +kernel) (w_eq (by decide) (by decide)) rfl) ?_
          refine XE.cast (hx762 _) ?_
          exact XE.rt rfl (X_zret (by decide +kernel) rfl (by decide))
      refine XE.bite (fun h911 => ?_) (fun h912 => ?_)
      · refine XE.go (st_tab_in (dflt := 3308) (lo := 0) (hi := 44) (offs := #[196, 292, 372, 428, 484, 540, 596, 652, 708, 752, 820, 912, 1004, 1108, 1176, 1232, 1312, 1368, 1424, 1480, 1536, 1604, 1672, 1752, 1820, 1900, 1980, 2048, 2128, 2196, 2264, 2332, 2412, 2480, 2548, 2640, 2720, 2800, 2892, 2972, 3040, 3108, 3164, 3232, 3295]) (len := 196) (off := 752) (pc' := 792) (by decide +kernel) 9 h911 (by decide) (by decide) (by decide) (by decide)) ?_
        unfold c_L_9
        refine XE.go (st_aload_n (j := 1) (i := 1) (pc' := 793) (by decide +kernel) rfl rfl (by decide) rfl) ?_
        refine XE.go (st_aload_n (j := 0) (i := 0) (pc' := 794) (by decide +kernel) rfl rfl (by decide) rfl) ?_
        refine XE.go (st_iload (j := 4) (pc' := 796) (by decide +kernel) rfl rfl) ?_
        refine XE.go (st_iconst (n := 1) (pc' := 797) (by decide +kernel) (w_eq (by decide) (by decide)) rfl) ?_
        refine XE.go (st_iadd (pc' := 798) (by decide +kernel) rfl) ?_
        refine XE.gdb (fun g913 => ?_)
        refine XE.go (st_sld (pc' := 799) (by decide +kernel) rfl g913.1 g913.2) ?_
        refine XE.go (st_aload_n (j := 0) (i := 0) (pc' := 800) (by decide +kernel) rfl rfl (by decide) rfl) ?_
        refine XE.go (st_iload (j := 4) (pc' := 802) (by decide +kernel) rfl rfl) ?_
        refine XE.go (st_iconst (n := 2) (pc' := 803) (by decide +kernel) (w_eq (by decide) (by decide)) rfl) ?_
        refine XE.go (st_iadd (pc' := 804) (by decide +kernel) rfl) ?_
        refine XE.gdb (fun g914 => ?_)
        refine XE.go (st_sld (pc' := 805) (by decide +kernel) rfl g914.1 g914.2) ?_
        refine XE.go (st_aload_n (j := 3) (i := 3) (pc' := 806) (by decide +kernel) rfl rfl (by decide) rfl) ?_
        refine XE.asc ?_
        refine XE.cW1 (pc' := 809) (st := []) (fun r hr => ct_L_quota r hr) (fun r hr => run_S (st := []) (by decide +kernel) co_L_law_195 (ct_L_quota r hr) rfl rfl (Nat.le_of_ble_eq_true rfl)) rfl rfl (fun r915 => ?_)
        refine XE.go (st_istore (j := 5) (pc' := 811) (by decide +kernel)  rfl (by decide) rfl rfl) ?_
        refine XE.go (st_aload_n (j := 2) (i := 2) (pc' := 812) (by decide +kernel) rfl rfl (by decide) rfl) ?_
        refine XE.go (st_aload_n (j := 0) (i := 0) (pc' := 813) (by decide +kernel) rfl rfl (by decide) rfl) ?_
        refine XE.go (st_iload (j := 4) (pc' := 815) (by decide +kernel) rfl rfl) ?_
        refine XE.go (st_iconst (n := 1) (pc' := 816) (by decide +kernel) (w_eq (by decide) (by decide)) rfl) ?_
        refine XE.go (st_iadd (pc' := 817) (by decide +kernel) rfl) ?_
        refine XE.gdb (fun g916 => ?_)
        refine XE.go (st_sld (pc' := 818) (by decide +kernel) rfl g916.1 g916.2) ?_
        refine XE.go (st_aload_n (j := 0) (i := 0) (pc' := 819) (by decide +kernel) rfl rfl (by decide) rfl) ?_
        refine XE.go (st_iload (j := 4) (pc' := 821) (by decide +kernel) rfl rfl) ?_
        refine XE.go (st_iconst (n := 2) (pc' := 822) (by decide +kernel) (w_eq (by decide) (by decide)) rfl) ?_
        refine XE.go (st_iadd (pc' := 823) (by decide +kernel) rfl) ?_
        refine XE.gdb (fun g917 => ?_)
        refine XE.go (st_sld (pc' := 824) (by decide +kernel) rfl g917.1 g917.2) ?_
        refine XE.asc ?_
        refine XE.cW (pc' := 827) (st := []) (fun r hr => ct_X11_quota h5 r hr) (fun r hr => run_V (st := []) (by decide +kernel) co_L_law_198 (ct_X11_quota h5 r hr) rfl h5 rfl rfl (Nat.le_of_ble_eq_true rfl)) rfl rfl (fun r918 => ?_)
        refine XE.go (st_istore (j := 6) (pc' := 829) (by decide +kernel)  rfl (by decide) rfl rfl) ?_
        refine XE.go (st_aload_n (j := 2) (i := 2) (pc' := 830) (by decide +kernel) rfl rfl (by decide) rfl) ?_
        refine XE.asc ?_
        refine XE.cP (pc' := 833) (st := []) (fun r hr => ct_X11_thrown h5 r hr) (fun r hr => run_V (st := []) (by decide +kernel) co_L_law_165 (ct_X11_thrown h5 r hr) rfl h5 rfl rfl (Nat.le_of_ble_eq_true rfl)) rfl rfl (fun r919 => ?_)
        refine XE.go (st_iload (j := 5) (pc' := 835) (by decide +kernel) rfl rfl) ?_
        refine XE.bite (fun h920 => ?_) (fun h921 => ?_)
        · refine XE.go (st_icmp_eq_t (off := 5) (pc' := 840) (by decide +kernel) (by decide) h920) ?_
          refine XE.go (st_iload (j := 5) (pc' := 842) (by decide +kernel) rfl rfl) ?_
          refine XE.bite (fun h922 => ?_) (fun h923 => ?_)
          · refine XE.go (st_if_ne_f (off := 15) (pc' := 845) (by decide +kernel) 857 (by decide) rfl (not_not_intro h922)) ?_
            refine XE.go (st_aload_n (j := 3) (i := 3) (pc' := 846) (by decide +kernel) rfl rfl (by decide) rfl) ?_
            refine XE.go (st_iconst (n := 0) (pc' := 847) (by decide +kernel) (w_eq (by decide) (by decide)) rfl) ?_
            refine XE.gdb (fun g924 => ?_)
            refine XE.go (st_ald (k := 15) (tp := 2) (pc' := 848) (by decide +kernel) rfl ak_15 rfl (by decide) rfl (Or.inr (Or.inr (Or.inl ⟨rfl, rfl⟩))) g924.1 g924.2.1 g924.2.2) ?_
            refine XE.go (st_iload (j := 6) (pc' := 850) (by decide +kernel) rfl rfl) ?_
            refine XE.go (st_i2l (pc' := 851) (by decide +kernel) rfl) ?_
            refine XE.go (st_lcmp (pc' := 852) (by decide +kernel) rfl) ?_
            refine XE.bite (fun h925 => ?_) (fun h926 => ?_)
            · refine XE.go (st_if_eq_t (off := 5) (pc' := 857) (by decide +kernel) (by decide) h925) ?_
              refine XE.go (st_goto (off := 2491) (pc' := 3348) (by decide +kernel) (by decide)) ?_
              refine XE.go (st_iinc (j := 4) (n := 6) (pc' := 3351) (by decide +kernel) rfl rfl (by decide) rfl rfl) ?_
              refine XE.go (st_goto (off := (-3328)) (pc' := 23) (by decide +kernel) (by decide)) ?_
              exact XE.pick [3, 4, 5, 6, 0] rfl (hc760 ((w (s9.1 + 6)), r918.2))
            · refine XE.go (st_if_eq_f (off := 5) (pc' := 855) (by decide +kernel) 857 (by decide) rfl h926) ?_
              refine XE.go (st_iconst (n := 0) (pc' := 856) (by decide +kernel) (w_eq (by decide) (by decide)) rfl) ?_
              refine XE.cast (hx762 _) ?_
              exact XE.rt rfl (X_zret (by decide +kernel) rfl (by decide))
          · refine XE.go (st_if_ne_t (off := 15) (pc' := 857) (by decide +kernel) (by decide) h923) ?_
            refine XE.go (st_goto (off := 2491) (pc' := 3348) (by decide +kernel) (by decide)) ?_
            refine XE.go (st_iinc (j := 4) (n := 6) (pc' := 3351) (by decide +kernel) rfl rfl (by decide) rfl rfl) ?_
            refine XE.go (st_goto (off := (-3328)) (pc' := 23) (by decide +kernel) (by decide)) ?_
            exact XE.pick [3, 4, 5, 6, 0] rfl (hc760 ((w (s9.1 + 6)), r918.2))
        · refine XE.go (st_icmp_eq_f (off := 5) (pc' := 838) (by decide +kernel) 840 (by decide) rfl h921) ?_
          refine XE.go (st_iconst (n := 0) (pc' := 839) (by decide +kernel) (w_eq (by decide) (by decide)) rfl) ?_
          refine XE.cast (hx762 _) ?_
          exact XE.rt rfl (X_zret (by decide +kernel) rfl (by decide))
      refine XE.bite (fun h927 => ?_) (fun h928 => ?_)
      · refine XE.go (st_tab_in (dflt := 3308) (lo := 0) (hi := 44) (offs := #[196, 292, 372, 428, 484, 540, 596, 652, 708, 752, 820, 912, 1004, 1108, 1176, 1232, 1312, 1368, 1424, 1480, 1536, 1604, 1672, 1752, 1820, 1900, 1980, 2048, 2128, 2196, 2264, 2332, 2412, 2480, 2548, 2640, 2720, 2800, 2892, 2972, 3040, 3108, 3164, 3232, 3295]) (len := 196) (off := 820) (pc' := 860) (by decide +kernel) 10 h927 (by decide) (by decide) (by decide) (by decide)) ?_
        unfold c_L_10
        refine XE.go (st_aload_n (j := 1) (i := 1) (pc' := 861) (by decide +kernel) rfl rfl (by decide) rfl) ?_
        refine XE.go (st_aload_n (j := 0) (i := 0) (pc' := 862) (by decide +kernel) rfl rfl (by decide) rfl) ?_
        refine XE.go (st_iload (j := 4) (pc' := 864) (by decide +kernel) rfl rfl) ?_
        refine XE.go (st_iconst (n := 1) (pc' := 865) (by decide +kernel) (w_eq (by decide) (by decide)) rfl) ?_
        refine XE.go (st_iadd (pc' := 866) (by decide +kernel) rfl) ?_
        refine XE.gdb (fun g929 => ?_)
        refine XE.go (st_sld (pc' := 867) (by decide +kernel) rfl g929.1 g929.2) ?_
        refine XE.go (st_aload_n (j := 0) (i := 0) (pc' := 868) (by decide +kernel) rfl rfl (by decide) rfl) ?_
        refine XE.go (st_iload (j := 4) (pc' := 870) (by decide +kernel) rfl rfl) ?_
        refine XE.go (st_iconst (n := 2) (pc' := 871) (by decide +kernel) (w_eq (by decide) (by decide)) rfl) ?_
        refine XE.go (st_iadd (pc' := 872) (by decide +kernel) rfl) ?_
        refine XE.gdb (fun g930 => ?_)
        refine XE.go (st_sld (pc' := 873) (by decide +kernel) rfl g930.1 g930.2) ?_
        refine XE.go (st_aload_n (j := 0) (i := 0) (pc' := 874) (by decide +kernel) rfl rfl (by decide) rfl) ?_
        refine XE.go (st_iload (j := 4) (pc' := 876) (by decide +kernel) rfl rfl) ?_
        refine XE.go (st_iconst (n := 3) (pc' := 877) (by decide +kernel) (w_eq (by decide) (by decide)) rfl) ?_
        refine XE.go (st_iadd (pc' := 878) (by decide +kernel) rfl) ?_
        refine XE.gdb (fun g931 => ?_)
        refine XE.go (st_sld (pc' := 879) (by decide +kernel) rfl g931.1 g931.2) ?_
        refine XE.go (st_aload_n (j := 0) (i := 0) (pc' := 880) (by decide +kernel) rfl rfl (by decide) rfl) ?_
        refine XE.go (st_iload (j := 4) (pc' := 882) (by decide +kernel) rfl rfl) ?_
        refine XE.go (st_iconst (n := 4) (pc' := 883) (by decide +kernel) (w_eq (by decide) (by decide)) rfl) ?_
        refine XE.go (st_iadd (pc' := 884) (by decide +kernel) rfl) ?_
        refine XE.gdb (fun g932 => ?_)
        refine XE.go (st_sld (pc' := 885) (by decide +kernel) rfl g932.1 g932.2) ?_
        refine XE.go (st_aload_n (j := 3) (i := 3) (pc' := 886) (by decide +kernel) rfl rfl (by decide) rfl) ?_
        refine XE.asc ?_
        refine XE.cW1 (pc' := 889) (st := []) (fun r hr => ct_L_send r hr) (fun r hr => run_S (st := []) (by decide +kernel) co_L_law_199 (ct_L_send r hr) rfl rfl (Nat.le_of_ble_eq_true rfl)) rfl rfl (fun r933 => ?_)
        refine XE.go (st_istore (j := 5) (pc' := 891) (by decide +kernel)  rfl (by decide) rfl rfl) ?_
        refine XE.go (st_aload_n (j := 2) (i := 2) (pc' := 892) (by decide +kernel) rfl rfl (by decide) rfl) ?_
        refine XE.go (st_aload_n (j := 0) (i := 0) (pc' := 893) (by decide +kernel) rfl rfl (by decide) rfl) ?_
        refine XE.go (st_iload (j := 4) (pc' := 895) (by decide +kernel) rfl rfl) ?_
        refine XE.go (st_iconst (n := 1) (pc' := 896) (by decide +kernel) (w_eq (by decide) (by decide)) rfl) ?_
        refine XE.go (st_iadd (pc' := 897) (by decide +kernel) rfl) ?_
        refine XE.gdb (fun g934 => ?_)
        refine XE.go (st_sld (pc' := 898) (by decide +kernel) rfl g934.1 g934.2) ?_
        refine XE.go (st_aload_n (j := 0) (i := 0) (pc' := 899) (by decide +kernel) rfl rfl (by decide) rfl) ?_
        refine XE.go (st_iload (j := 4) (pc' := 901) (by decide +kernel) rfl rfl) ?_
        refine XE.go (st_iconst (n := 2) (pc' := 902) (by decide +kernel) (w_eq (by decide) (by decide)) rfl) ?_
        refine XE.go (st_iadd (pc' := 903) (by decide +kernel) rfl) ?_
        refine XE.gdb (fun g935 => ?_)
        refine XE.go (st_sld (pc' := 904) (by decide +kernel) rfl g935.1 g935.2) ?_
        refine XE.go (st_aload_n (j := 0) (i := 0) (pc' := 905) (by decide +kernel) rfl rfl (by decide) rfl) ?_
        refine XE.go (st_iload (j := 4) (pc' := 907) (by decide +kernel) rfl rfl) ?_
        refine XE.go (st_iconst (n := 3) (pc' := 908) (by decide +kernel) (w_eq (by decide) (by decide)) rfl) ?_
        refine XE.go (st_iadd (pc' := 909) (by decide +kernel) rfl) ?_
        refine XE.gdb (fun g936 => ?_)
        refine XE.go (st_sld (pc' := 910) (by decide +kernel) rfl g936.1 g936.2) ?_
        refine XE.go (st_aload_n (j := 0) (i := 0) (pc' := 911) (by decide +kernel) rfl rfl (by decide) rfl) ?_
        refine XE.go (st_iload (j := 4) (pc' := 913) (by decide +kernel) rfl rfl) ?_
        refine XE.go (st_iconst (n := 4) (pc' := 914) (by decide +kernel) (w_eq (by decide) (by decide)) rfl) ?_
        refine XE.go (st_iadd (pc' := 915) (by decide +kernel) rfl) ?_
        refine XE.gdb (fun g937 => ?_)
        refine XE.go (st_sld (pc' := 916) (by decide +kernel) rfl g937.1 g937.2) ?_
        refine XE.asc ?_
        refine XE.cW (pc' := 919) (st := []) (fun r hr => ct_X11_send h5 r hr) (fun r hr => run_V (st := []) (by decide +kernel) co_L_law_202 (ct_X11_send h5 r hr) rfl h5 rfl rfl (Nat.le_of_ble_eq_true rfl)) rfl rfl (fun r938 => ?_)
        refine XE.go (st_istore (j := 6) (pc' := 921) (by decide +kernel)  rfl (by decide) rfl rfl) ?_
        refine XE.go (st_aload_n (j := 2) (i := 2) (pc' := 922) (by decide +kernel) rfl rfl (by decide) rfl) ?_
        refine XE.asc ?_
        refine XE.cP (pc' := 925) (st := []) (fun r hr => ct_X11_thrown h5 r hr) (fun r hr => run_V (st := []) (by decide +kernel) co_L_law_165 (ct_X11_thrown h5 r hr) rfl h5 rfl rfl (Nat.le_of_ble_eq_true rfl)) rfl rfl (fun r939 => ?_)
        refine XE.go (st_iload (j := 5) (pc' := 927) (by decide +kernel) rfl rfl) ?_
        refine XE.bite (fun h940 => ?_) (fun h941 => ?_)
        · refine XE.go (st_icmp_eq_t (off := 5) (pc' := 932) (by decide +kernel) (by decide) h940) ?_
          refine XE.go (st_iload (j := 5) (pc' := 934) (by decide +kernel) rfl rfl) ?_
          refine XE.bite (fun h942 => ?_) (fun h943 => ?_)
          · refine XE.go (st_if_ne_f (off := 15) (pc' := 937) (by decide +kernel) 949 (by decide) rfl (not_not_intro h942)) ?_
            refine XE.go (st_aload_n (j := 3) (i := 3) (pc' := 938) (by decide +kernel) rfl rfl (by decide) rfl) ?_
            refine XE.go (st_iconst (n := 0) (pc' := 939) (by decide +kernel) (w_eq (by decide) (by decide)) rfl) ?_
            refine XE.gdb (fun g944 => ?_)
            refine XE.go (st_ald (k := 15) (tp := 2) (pc' := 940) (by decide +kernel) rfl ak_15 rfl (by decide) rfl (Or.inr (Or.inr (Or.inl ⟨rfl, rfl⟩))) g944.1 g944.2.1 g944.2.2) ?_
            refine XE.go (st_iload (j := 6) (pc' := 942) (by decide +kernel) rfl rfl) ?_
            refine XE.go (st_i2l (pc' := 943) (by decide +kernel) rfl) ?_
            refine XE.go (st_lcmp (pc' := 944) (by decide +kernel) rfl) ?_
            refine XE.bite (fun h945 => ?_) (fun h946 => ?_)
            · refine XE.go (st_if_eq_t (off := 5) (pc' := 949) (by decide +kernel) (by decide) h945) ?_
              refine XE.go (st_goto (off := 2399) (pc' := 3348) (by decide +kernel) (by decide)) ?_
              refine XE.go (st_iinc (j := 4) (n := 6) (pc' := 3351) (by decide +kernel) rfl rfl (by decide) rfl rfl) ?_
              refine XE.go (st_goto (off := (-3328)) (pc' := 23) (by decide +kernel) (by decide)) ?_
              exact XE.pick [3, 4, 5, 6, 0] rfl (hc760 ((w (s9.1 + 6)), r938.2))
            · refine XE.go (st_if_eq_f (off := 5) (pc' := 947) (by decide +kernel) 949 (by decide) rfl h946) ?_
              refine XE.go (st_iconst (n := 0) (pc' := 948) (by decide +kernel) (w_eq (by decide) (by decide)) rfl) ?_
              refine XE.cast (hx762 _) ?_
              exact XE.rt rfl (X_zret (by decide +kernel) rfl (by decide))
          · refine XE.go (st_if_ne_t (off := 15) (pc' := 949) (by decide +kernel) (by decide) h943) ?_
            refine XE.go (st_goto (off := 2399) (pc' := 3348) (by decide +kernel) (by decide)) ?_
            refine XE.go (st_iinc (j := 4) (n := 6) (pc' := 3351) (by decide +kernel) rfl rfl (by decide) rfl rfl) ?_
            refine XE.go (st_goto (off := (-3328)) (pc' := 23) (by decide +kernel) (by decide)) ?_
            exact XE.pick [3, 4, 5, 6, 0] rfl (hc760 ((w (s9.1 + 6)), r938.2))
        · refine XE.go (st_icmp_eq_f (off := 5) (pc' := 930) (by decide +kernel) 932 (by decide) rfl h941) ?_
          refine XE.go (st_iconst (n := 0) (pc' := 931) (by decide +kernel) (w_eq (by decide) (by decide)) rfl) ?_
          refine XE.cast (hx762 _) ?_
          exact XE.rt rfl (X_zret (by decide +kernel) rfl (by decide))
      refine XE.bite (fun h947 => ?_) (fun h948 => ?_)
      · refine XE.go (st_tab_in (dflt := 3308) (lo := 0) (hi := 44) (offs := #[196, 292, 372, 428, 484, 540, 596, 652, 708, 752, 820, 912, 1004, 1108, 1176, 1232, 1312, 1368, 1424, 1480, 1536, 1604, 1672, 1752, 1820, 1900, 1980, 2048, 2128, 2196, 2264, 2332, 2412, 2480, 2548, 2640, 2720, 2800, 2892, 2972, 3040, 3108, 3164, 3232, 3295]) (len := 196) (off := 912) (pc' := 952) (by decide +kernel) 11 h947 (by decide) (by decide) (by decide) (by decide)) ?_
        unfold c_L_11
        refine XE.go (st_aload_n (j := 1) (i := 1) (pc' := 953) (by decide +kernel) rfl rfl (by decide) rfl) ?_
        refine XE.go (st_aload_n (j := 0) (i := 0) (pc' := 954) (by decide +kernel) rfl rfl (by decide) rfl) ?_
        refine XE.go (st_iload (j := 4) (pc' := 956) (by decide +kernel) rfl rfl) ?_
        refine XE.go (st_iconst (n := 1) (pc' := 957) (by decide +kernel) (w_eq (by decide) (by decide)) rfl) ?_
        refine XE.go (st_iadd (pc' := 958) (by decide +kernel) rfl) ?_
        refine XE.gdb (fun g949 => ?_)
        refine XE.go (st_sld (pc' := 959) (by decide +kernel) rfl g949.1 g949.2) ?_
        refine XE.go (st_aload_n (j := 0) (i := 0) (pc' := 960) (by decide +kernel) rfl rfl (by decide) rfl) ?_
        refine XE.go (st_iload (j := 4) (pc' := 962) (by decide +kernel) rfl rfl) ?_
        refine XE.go (st_iconst (n := 2) (pc' := 963) (by decide +kernel) (w_eq (by decide) (by decide)) rfl) ?_
        refine XE.go (st_iadd (pc' := 964) (by decide +kernel) rfl) ?_
        refine XE.gdb (fun g950 => ?_)
        refine XE.go (st_sld (pc' := 965) (by decide +kernel) rfl g950.1 g950.2) ?_
        refine XE.go (st_aload_n (j := 0) (i := 0) (pc' := 966) (by decide +kernel) rfl rfl (by decide) rfl) ?_
        refine XE.go (st_iload (j := 4) (pc' := 968) (by decide +kernel) rfl rfl) ?_
        refine XE.go (st_iconst (n := 3) (pc' := 969) (by decide +kernel) (w_eq (by decide) (by decide)) rfl) ?_
        refine XE.go (st_iadd (pc' := 970) (by decide +kernel) rfl) ?_
        refine XE.gdb (fun g951 => ?_)
        refine XE.go (st_sld (pc' := 971) (by decide +kernel) rfl g951.1 g951.2) ?_
        refine XE.go (st_aload_n (j := 0) (i := 0) (pc' := 972) (by decide +kernel) rfl rfl (by decide) rfl) ?_
        refine XE.go (st_iload (j := 4) (pc' := 974) (by decide +kernel) rfl rfl) ?_
        refine XE.go (st_iconst (n := 4) (pc' := 975) (by decide +kernel) (w_eq (by decide) (by decide)) rfl) ?_
        refine XE.go (st_iadd (pc' := 976) (by decide +kernel) rfl) ?_
        refine XE.gdb (fun g952 => ?_)
        refine XE.go (st_sld (pc' := 977) (by decide +kernel) rfl g952.1 g952.2) ?_
        refine XE.go (st_aload_n (j := 3) (i := 3) (pc' := 978) (by decide +kernel) rfl rfl (by decide) rfl) ?_
        refine XE.asc ?_
        refine XE.cW1 (pc' := 981) (st := []) (fun r hr => ct_L_sendSome r hr) (fun r hr => run_S (st := []) (by decide +kernel) co_L_law_203 (ct_L_sendSome r hr) rfl rfl (Nat.le_of_ble_eq_true rfl)) rfl rfl (fun r953 => ?_)
        refine XE.go (st_istore (j := 5) (pc' := 983) (by decide +kernel)  rfl (by decide) rfl rfl) ?_
        refine XE.go (st_aload_n (j := 2) (i := 2) (pc' := 984) (by decide +kernel) rfl rfl (by decide) rfl) ?_
        refine XE.go (st_aload_n (j := 0) (i := 0) (pc' := 985) (by decide +kernel) rfl rfl (by decide) rfl) ?_
        refine XE.go (st_iload (j := 4) (pc' := 987) (by decide +kernel) rfl rfl) ?_
        refine XE.go (st_iconst (n := 1) (pc' := 988) (by decide +kernel) (w_eq (by decide) (by decide)) rfl) ?_
        refine XE.go (st_iadd (pc' := 989) (by decide +kernel) rfl) ?_
        refine XE.gdb (fun g954 => ?_)
        refine XE.go (st_sld (pc' := 990) (by decide +kernel) rfl g954.1 g954.2) ?_
        refine XE.go (st_aload_n (j := 0) (i := 0) (pc' := 991) (by decide +kernel) rfl rfl (by decide) rfl) ?_
        refine XE.go (st_iload (j := 4) (pc' := 993) (by decide +kernel) rfl rfl) ?_
        refine XE.go (st_iconst (n := 2) (pc' := 994) (by decide +kernel) (w_eq (by decide) (by decide)) rfl) ?_
        refine XE.go (st_iadd (pc' := 995) (by decide +kernel) rfl) ?_
        refine XE.gdb (fun g955 => ?_)
        refine XE.go (st_sld (pc' := 996) (by decide +kernel) rfl g955.1 g955.2) ?_
        refine XE.go (st_aload_n (j := 0) (i := 0) (pc' := 997) (by decide +kernel) rfl rfl (by decide) rfl) ?_
        refine XE.go (st_iload (j := 4) (pc' := 999) (by decide +kernel) rfl rfl) ?_
        refine XE.go (st_iconst (n := 3) (pc' := 1000) (by decide +kernel) (w_eq (by decide) (by decide)) rfl) ?_
        refine XE.go (st_iadd (pc' := 1001) (by decide +kernel) rfl) ?_
        refine XE.gdb (fun g956 => ?_)
        refine XE.go (st_sld (pc' := 1002) (by decide +kernel) rfl g956.1 g956.2) ?_
        refine XE.go (st_aload_n (j := 0) (i := 0) (pc' := 1003) (by decide +kernel) rfl rfl (by decide) rfl) ?_
        refine XE.go (st_iload (j := 4) (pc' := 1005) (by decide +kernel) rfl rfl) ?_
        refine XE.go (st_iconst (n := 4) (pc' := 1006) (by decide +kernel) (w_eq (by decide) (by decide)) rfl) ?_
        refine XE.go (st_iadd (pc' := 1007) (by decide +kernel) rfl) ?_
        refine XE.gdb (fun g957 => ?_)
        refine XE.go (st_sld (pc' := 1008) (by decide +kernel) rfl g957.1 g957.2) ?_
        refine XE.asc ?_
        refine XE.cW (pc' := 1011) (st := []) (fun r hr => ct_X11_sendSome h5 r hr) (fun r hr => run_V (st := []) (by decide +kernel) co_L_law_205 (ct_X11_sendSome h5 r hr) rfl h5 rfl rfl (Nat.le_of_ble_eq_true rfl)) rfl rfl (fun r958 => ?_)
        refine XE.go (st_istore (j := 6) (pc' := 1013) (by decide +kernel)  rfl (by decide) rfl rfl) ?_
        refine XE.go (st_aload_n (j := 2) (i := 2) (pc' := 1014) (by decide +kernel) rfl rfl (by decide) rfl) ?_
        refine XE.asc ?_
        refine XE.cP (pc' := 1017) (st := []) (fun r hr => ct_X11_thrown h5 r hr) (fun r hr => run_V (st := []) (by decide +kernel) co_L_law_165 (ct_X11_thrown h5 r hr) rfl h5 rfl rfl (Nat.le_of_ble_eq_true rfl)) rfl rfl (fun r959 => ?_)
        refine XE.go (st_iload (j := 5) (pc' := 1019) (by decide +kernel) rfl rfl) ?_
        refine XE.bite (fun h960 => ?_) (fun h961 => ?_)
        · refine XE.go (st_icmp_eq_t (off := 5) (pc' := 1024) (by decide +kernel) (by decide) h960) ?_
          refine XE.go (st_iload (j := 5) (pc' := 1026) (by decide +kernel) rfl rfl) ?_
          refine XE.bite (fun h962 => ?_) (fun h963 => ?_)
          · refine XE.go (st_if_ne_f (off := 15) (pc' := 1029) (by decide +kernel) 1041 (by decide) rfl (not_not_intro h962)) ?_
            refine XE.go (st_aload_n (j := 3) (i := 3) (pc' := 1030) (by decide +kernel) rfl rfl (by decide) rfl) ?_
            refine XE.go (st_iconst (n := 0) (pc' := 1031) (by decide +kernel) (w_eq (by decide) (by decide)) rfl) ?_
            refine XE.gdb (fun g964 => ?_)
            refine XE.go (st_ald (k := 15) (tp := 2) (pc' := 1032) (by decide +kernel) rfl ak_15 rfl (by decide) rfl (Or.inr (Or.inr (Or.inl ⟨rfl, rfl⟩))) g964.1 g964.2.1 g964.2.2) ?_
            refine XE.go (st_iload (j := 6) (pc' := 1034) (by decide +kernel) rfl rfl) ?_
            refine XE.go (st_i2l (pc' := 1035) (by decide +kernel) rfl) ?_
            refine XE.go (st_lcmp (pc' := 1036) (by decide +kernel) rfl) ?_
            refine XE.bite (fun h965 => ?_) (fun h966 => ?_)
            · refine XE.go (st_if_eq_t (off := 5) (pc' := 1041) (by decide +kernel) (by decide) h965) ?_
              refine XE.go (st_goto (off := 2307) (pc' := 3348) (by decide +kernel) (by decide)) ?_
              refine XE.go (st_iinc (j := 4) (n := 6) (pc' := 3351) (by decide +kernel) rfl rfl (by decide) rfl rfl) ?_
              refine XE.go (st_goto (off := (-3328)) (pc' := 23) (by decide +kernel) (by decide)) ?_
              exact XE.pick [3, 4, 5, 6, 0] rfl (hc760 ((w (s9.1 + 6)), r958.2))
            · refine XE.go (st_if_eq_f (off := 5) (pc' := 1039) (by decide +kernel) 1041 (by decide) rfl h966) ?_
              refine XE.go (st_iconst (n := 0) (pc' := 1040) (by decide +kernel) (w_eq (by decide) (by decide)) rfl) ?_
              refine XE.cast (hx762 _) ?_
              exact XE.rt rfl (X_zret (by decide +kernel) rfl (by decide))
          · refine XE.go (st_if_ne_t (off := 15) (pc' := 1041) (by decide +kernel) (by decide) h963) ?_
            refine XE.go (st_goto (off := 2307) (pc' := 3348) (by decide +kernel) (by decide)) ?_
            refine XE.go (st_iinc (j := 4) (n := 6) (pc' := 3351) (by decide +kernel) rfl rfl (by decide) rfl rfl) ?_
            refine XE.go (st_goto (off := (-3328)) (pc' := 23) (by decide +kernel) (by decide)) ?_
            exact XE.pick [3, 4, 5, 6, 0] rfl (hc760 ((w (s9.1 + 6)), r958.2))
        · refine XE.go (st_icmp_eq_f (off := 5) (pc' := 1022) (by decide +kernel) 1024 (by decide) rfl h961) ?_
          refine XE.go (st_iconst (n := 0) (pc' := 1023) (by decide +kernel) (w_eq (by decide) (by decide)) rfl) ?_
          refine XE.cast (hx762 _) ?_
          exact XE.rt rfl (X_zret (by decide +kernel) rfl (by decide))
      refine XE.bite (fun h967 => ?_) (fun h968 => ?_)
      · refine XE.go (st_tab_in (dflt := 3308) (lo := 0) (hi := 44) (offs := #[196, 292, 372, 428, 484, 540, 596, 652, 708, 752, 820, 912, 1004, 1108, 1176, 1232, 1312, 1368, 1424, 1480, 1536, 1604, 1672, 1752, 1820, 1900, 1980, 2048, 2128, 2196, 2264, 2332, 2412, 2480, 2548, 2640, 2720, 2800, 2892, 2972, 3040, 3108, 3164, 3232, 3295]) (len := 196) (off := 1004) (pc' := 1044) (by decide +kernel) 12 h967 (by decide) (by decide) (by decide) (by decide)) ?_
        unfold c_L_12
        refine XE.go (st_aload_n (j := 1) (i := 1) (pc' := 1045) (by decide +kernel) rfl rfl (by decide) rfl) ?_
        refine XE.go (st_aload_n (j := 0) (i := 0) (pc' := 1046) (by decide +kernel) rfl rfl (by decide) rfl) ?_
        refine XE.go (st_iload (j := 4) (pc' := 1048) (by decide +kernel) rfl rfl) ?_
        refine XE.go (st_iconst (n := 1) (pc' := 1049) (by decide +kernel) (w_eq (by decide) (by decide)) rfl) ?_
        refine XE.go (st_iadd (pc' := 1050) (by decide +kernel) rfl) ?_
        refine XE.gdb (fun g969 => ?_)
        refine XE.go (st_sld (pc' := 1051) (by decide +kernel) rfl g969.1 g969.2) ?_
        refine XE.go (st_aload_n (j := 0) (i := 0) (pc' := 1052) (by decide +kernel) rfl rfl (by decide) rfl) ?_
        refine XE.go (st_iload (j := 4) (pc' := 1054) (by decide +kernel) rfl rfl) ?_
        refine XE.go (st_iconst (n := 2) (pc' := 1055) (by decide +kernel) (w_eq (by decide) (by decide)) rfl) ?_
        refine XE.go (st_iadd (pc' := 1056) (by decide +kernel) rfl) ?_
        refine XE.gdb (fun g970 => ?_)
        refine XE.go (st_sld (pc' := 1057) (by decide +kernel) rfl g970.1 g970.2) ?_
        refine XE.go (st_aload_n (j := 0) (i := 0) (pc' := 1058) (by decide +kernel) rfl rfl (by decide) rfl) ?_
        refine XE.go (st_iload (j := 4) (pc' := 1060) (by decide +kernel) rfl rfl) ?_
        refine XE.go (st_iconst (n := 3) (pc' := 1061) (by decide +kernel) (w_eq (by decide) (by decide)) rfl) ?_
        refine XE.go (st_iadd (pc' := 1062) (by decide +kernel) rfl) ?_
        refine XE.gdb (fun g971 => ?_)
        refine XE.go (st_sld (pc' := 1063) (by decide +kernel) rfl g971.1 g971.2) ?_
        refine XE.go (st_aload_n (j := 0) (i := 0) (pc' := 1064) (by decide +kernel) rfl rfl (by decide) rfl) ?_
        refine XE.go (st_iload (j := 4) (pc' := 1066) (by decide +kernel) rfl rfl) ?_
        refine XE.go (st_iconst (n := 4) (pc' := 1067) (by decide +kernel) (w_eq (by decide) (by decide)) rfl) ?_
        refine XE.go (st_iadd (pc' := 1068) (by decide +kernel) rfl) ?_
        refine XE.gdb (fun g972 => ?_)
        refine XE.go (st_sld (pc' := 1069) (by decide +kernel) rfl g972.1 g972.2) ?_
        refine XE.go (st_aload_n (j := 0) (i := 0) (pc' := 1070) (by decide +kernel) rfl rfl (by decide) rfl) ?_
        refine XE.go (st_iload (j := 4) (pc' := 1072) (by decide +kernel) rfl rfl) ?_
        refine XE.go (st_iconst (n := 5) (pc' := 1073) (by decide +kernel) (w_eq (by decide) (by decide)) rfl) ?_
        refine XE.go (st_iadd (pc' := 1074) (by decide +kernel) rfl) ?_
        refine XE.gdb (fun g973 => ?_)
        refine XE.go (st_sld (pc' := 1075) (by decide +kernel) rfl g973.1 g973.2) ?_
        refine XE.go (st_aload_n (j := 3) (i := 3) (pc' := 1076) (by decide +kernel) rfl rfl (by decide) rfl) ?_
        refine XE.asc ?_
        refine XE.cW1 (pc' := 1079) (st := []) (fun r hr => ct_L_sendLater r hr) (fun r hr => run_S (st := []) (by decide +kernel) co_L_law_206 (ct_L_sendLater r hr) rfl rfl (Nat.le_of_ble_eq_true rfl)) rfl rfl (fun r974 => ?_)
        refine XE.go (st_istore (j := 5) (pc' := 1081) (by decide +kernel)  rfl (by decide) rfl rfl) ?_
        refine XE.go (st_aload_n (j := 2) (i := 2) (pc' := 1082) (by decide +kernel) rfl rfl (by decide) rfl) ?_
        refine XE.go (st_aload_n (j := 0) (i := 0) (pc' := 1083) (by decide +kernel) rfl rfl (by decide) rfl) ?_
        refine XE.go (st_iload (j := 4) (pc' := 1085) (by decide +kernel) rfl rfl) ?_
        refine XE.go (st_iconst (n := 1) (pc' := 1086) (by decide +kernel) (w_eq (by decide) (by decide)) rfl) ?_
        refine XE.go (st_iadd (pc' := 1087) (by decide +kernel) rfl) ?_
        refine XE.gdb (fun g975 => ?_)
        refine XE.go (st_sld (pc' := 1088) (by decide +kernel) rfl g975.1 g975.2) ?_
        refine XE.go (st_aload_n (j := 0) (i := 0) (pc' := 1089) (by decide +kernel) rfl rfl (by decide) rfl) ?_
        refine XE.go (st_iload (j := 4) (pc' := 1091) (by decide +kernel) rfl rfl) ?_
        refine XE.go (st_iconst (n := 2) (pc' := 1092) (by decide +kernel) (w_eq (by decide) (by decide)) rfl) ?_
        refine XE.go (st_iadd (pc' := 1093) (by decide +kernel) rfl) ?_
        refine XE.gdb (fun g976 => ?_)
        refine XE.go (st_sld (pc' := 1094) (by decide +kernel) rfl g976.1 g976.2) ?_
        refine XE.go (st_aload_n (j := 0) (i := 0) (pc' := 1095) (by decide +kernel) rfl rfl (by decide) rfl) ?_
        refine XE.go (st_iload (j := 4) (pc' := 1097) (by decide +kernel) rfl rfl) ?_
        refine XE.go (st_iconst (n := 3) (pc' := 1098) (by decide +kernel) (w_eq (by decide) (by decide)) rfl) ?_
        refine XE.go (st_iadd (pc' := 1099) (by decide +kernel) rfl) ?_
        refine XE.gdb (fun g977 => ?_)
        refine XE.go (st_sld (pc' := 1100) (by decide +kernel) rfl g977.1 g977.2) ?_
        refine XE.go (st_aload_n (j := 0) (i := 0) (pc' := 1101) (by decide +kernel) rfl rfl (by decide) rfl) ?_
        refine XE.go (st_iload (j := 4) (pc' := 1103) (by decide +kernel) rfl rfl) ?_
        refine XE.go (st_iconst (n := 4) (pc' := 1104) (by decide +kernel) (w_eq (by decide) (by decide)) rfl) ?_
        refine XE.go (st_iadd (pc' := 1105) (by decide +kernel) rfl) ?_
        refine XE.gdb (fun g978 => ?_)
        refine XE.go (st_sld (pc' := 1106) (by decide +kernel) rfl g978.1 g978.2) ?_
        refine XE.go (st_aload_n (j := 0) (i := 0) (pc' := 1107) (by decide +kernel) rfl rfl (by decide) rfl) ?_
        refine XE.go (st_iload (j := 4) (pc' := 1109) (by decide +kernel) rfl rfl) ?_
        refine XE.go (st_iconst (n := 5) (pc' := 1110) (by decide +kernel) (w_eq (by decide) (by decide)) rfl) ?_
        refine XE.go (st_iadd (pc' := 1111) (by decide +kernel) rfl) ?_
        refine XE.gdb (fun g979 => ?_)
        refine XE.go (st_sld (pc' := 1112) (by decide +kernel) rfl g979.1 g979.2) ?_
        refine XE.asc ?_
        refine XE.cW (pc' := 1115) (st := []) (fun r hr => ct_X11_sendLater h5 r hr) (fun r hr => run_V (st := []) (by decide +kernel) co_L_law_209 (ct_X11_sendLater h5 r hr) rfl h5 rfl rfl (Nat.le_of_ble_eq_true rfl)) rfl rfl (fun r980 => ?_)
        refine XE.go (st_istore (j := 6) (pc' := 1117) (by decide +kernel)  rfl (by decide) rfl rfl) ?_
        refine XE.go (st_aload_n (j := 2) (i := 2) (pc' := 1118) (by decide +kernel) rfl rfl (by decide) rfl) ?_
        refine XE.asc ?_
        refine XE.cP (pc' := 1121) (st := []) (fun r hr => ct_X11_thrown h5 r hr) (fun r hr => run_V (st := []) (by decide +kernel) co_L_law_165 (ct_X11_thrown h5 r hr) rfl h5 rfl rfl (Nat.le_of_ble_eq_true rfl)) rfl rfl (fun r981 => ?_)
        refine XE.go (st_iload (j := 5) (pc' := 1123) (by decide +kernel) rfl rfl) ?_
        refine XE.bite (fun h982 => ?_) (fun h983 => ?_)
        · refine XE.go (st_icmp_eq_t (off := 5) (pc' := 1128) (by decide +kernel) (by decide) h982) ?_
          refine XE.go (st_iload (j := 5) (pc' := 1130) (by decide +kernel) rfl rfl) ?_
          refine XE.bite (fun h984 => ?_) (fun h985 => ?_)
          · refine XE.go (st_if_ne_f (off := 15) (pc' := 1133) (by decide +kernel) 1145 (by decide) rfl (not_not_intro h984)) ?_
            refine XE.go (st_aload_n (j := 3) (i := 3) (pc' := 1134) (by decide +kernel) rfl rfl (by decide) rfl) ?_
            refine XE.go (st_iconst (n := 0) (pc' := 1135) (by decide +kernel) (w_eq (by decide) (by decide)) rfl) ?_
            refine XE.gdb (fun g986 => ?_)
            refine XE.go (st_ald (k := 15) (tp := 2) (pc' := 1136) (by decide +kernel) rfl ak_15 rfl (by decide) rfl (Or.inr (Or.inr (Or.inl ⟨rfl, rfl⟩))) g986.1 g986.2.1 g986.2.2) ?_
            refine XE.go (st_iload (j := 6) (pc' := 1138) (by decide +kernel) rfl rfl) ?_
            refine XE.go (st_i2l (pc' := 1139) (by decide +kernel) rfl) ?_
            refine XE.go (st_lcmp (pc' := 1140) (by decide +kernel) rfl) ?_
            refine XE.bite (fun h987 => ?_) (fun h988 => ?_)
            · refine XE.go (st_if_eq_t (off := 5) (pc' := 1145) (by decide +kernel) (by decide) h987) ?_
              refine XE.go (st_goto (off := 2203) (pc' := 3348) (by decide +kernel) (by decide)) ?_
              refine XE.go (st_iinc (j := 4) (n := 6) (pc' := 3351) (by decide +kernel) rfl rfl (by decide) rfl rfl) ?_
              refine XE.go (st_goto (off := (-3328)) (pc' := 23) (by decide +kernel) (by decide)) ?_
              exact XE.pick [3, 4, 5, 6, 0] rfl (hc760 ((w (s9.1 + 6)), r980.2))
            · refine XE.go (st_if_eq_f (off := 5) (pc' := 1143) (by decide +kernel) 1145 (by decide) rfl h988) ?_
              refine XE.go (st_iconst (n := 0) (pc' := 1144) (by decide +kernel) (w_eq (by decide) (by decide)) rfl) ?_
              refine XE.cast (hx762 _) ?_
              exact XE.rt rfl (X_zret (by decide +kernel) rfl (by decide))
          · refine XE.go (st_if_ne_t (off := 15) (pc' := 1145) (by decide +kernel) (by decide) h985) ?_
            refine XE.go (st_goto (off := 2203) (pc' := 3348) (by decide +kernel) (by decide)) ?_
            refine XE.go (st_iinc (j := 4) (n := 6) (pc' := 3351) (by decide +kernel) rfl rfl (by decide) rfl rfl) ?_
            refine XE.go (st_goto (off := (-3328)) (pc' := 23) (by decide +kernel) (by decide)) ?_
            exact XE.pick [3, 4, 5, 6, 0] rfl (hc760 ((w (s9.1 + 6)), r980.2))
        · refine XE.go (st_icmp_eq_f (off := 5) (pc' := 1126) (by decide +kernel) 1128 (by decide) rfl h983) ?_
          refine XE.go (st_iconst (n := 0) (pc' := 1127) (by decide +kernel) (w_eq (by decide) (by decide)) rfl) ?_
          refine XE.cast (hx762 _) ?_
          exact XE.rt rfl (X_zret (by decide +kernel) rfl (by decide))
      refine XE.bite (fun h989 => ?_) (fun h990 => ?_)
      · refine XE.go (st_tab_in (dflt := 3308) (lo := 0) (hi := 44) (offs := #[196, 292, 372, 428, 484, 540, 596, 652, 708, 752, 820, 912, 1004, 1108, 1176, 1232, 1312, 1368, 1424, 1480, 1536, 1604, 1672, 1752, 1820, 1900, 1980, 2048, 2128, 2196, 2264, 2332, 2412, 2480, 2548, 2640, 2720, 2800, 2892, 2972, 3040, 3108, 3164, 3232, 3295]) (len := 196) (off := 1108) (pc' := 1148) (by decide +kernel) 13 h989 (by decide) (by decide) (by decide) (by decide)) ?_
        unfold c_L_13
        refine XE.go (st_aload_n (j := 1) (i := 1) (pc' := 1149) (by decide +kernel) rfl rfl (by decide) rfl) ?_
        refine XE.go (st_aload_n (j := 0) (i := 0) (pc' := 1150) (by decide +kernel) rfl rfl (by decide) rfl) ?_
        refine XE.go (st_iload (j := 4) (pc' := 1152) (by decide +kernel) rfl rfl) ?_
        refine XE.go (st_iconst (n := 1) (pc' := 1153) (by decide +kernel) (w_eq (by decide) (by decide)) rfl) ?_
        refine XE.go (st_iadd (pc' := 1154) (by decide +kernel) rfl) ?_
        refine XE.gdb (fun g991 => ?_)
        refine XE.go (st_sld (pc' := 1155) (by decide +kernel) rfl g991.1 g991.2) ?_
        refine XE.go (st_aload_n (j := 0) (i := 0) (pc' := 1156) (by decide +kernel) rfl rfl (by decide) rfl) ?_
        refine XE.go (st_iload (j := 4) (pc' := 1158) (by decide +kernel) rfl rfl) ?_
        refine XE.go (st_iconst (n := 2) (pc' := 1159) (by decide +kernel) (w_eq (by decide) (by decide)) rfl) ?_
        refine XE.go (st_iadd (pc' := 1160) (by decide +kernel) rfl) ?_
        refine XE.gdb (fun g992 => ?_)
        refine XE.go (st_sld (pc' := 1161) (by decide +kernel) rfl g992.1 g992.2) ?_
        refine XE.go (st_aload_n (j := 3) (i := 3) (pc' := 1162) (by decide +kernel) rfl rfl (by decide) rfl) ?_
        refine XE.asc ?_
        refine XE.cW1 (pc' := 1165) (st := []) (fun r hr => ct_L_resend r hr) (fun r hr => run_S (st := []) (by decide +kernel) co_L_law_210 (ct_L_resend r hr) rfl rfl (Nat.le_of_ble_eq_true rfl)) rfl rfl (fun r993 => ?_)
        refine XE.go (st_istore (j := 5) (pc' := 1167) (by decide +kernel)  rfl (by decide) rfl rfl) ?_
        refine XE.go (st_aload_n (j := 2) (i := 2) (pc' := 1168) (by decide +kernel) rfl rfl (by decide) rfl) ?_
        refine XE.go (st_aload_n (j := 0) (i := 0) (pc' := 1169) (by decide +kernel) rfl rfl (by decide) rfl) ?_
        refine XE.go (st_iload (j := 4) (pc' := 1171) (by decide +kernel) rfl rfl) ?_
        refine XE.go (st_iconst (n := 1) (pc' := 1172) (by decide +kernel) (w_eq (by decide) (by decide)) rfl) ?_
        refine XE.go (st_iadd (pc' := 1173) (by decide +kernel) rfl) ?_
        refine XE.gdb (fun g994 => ?_)
        refine XE.go (st_sld (pc' := 1174) (by decide +kernel) rfl g994.1 g994.2) ?_
        refine XE.go (st_aload_n (j := 0) (i := 0) (pc' := 1175) (by decide +kernel) rfl rfl (by decide) rfl) ?_
        refine XE.go (st_iload (j := 4) (pc' := 1177) (by decide +kernel) rfl rfl) ?_
        refine XE.go (st_iconst (n := 2) (pc' := 1178) (by decide +kernel) (w_eq (by decide) (by decide)) rfl) ?_
        refine XE.go (st_iadd (pc' := 1179) (by decide +kernel) rfl) ?_
        refine XE.gdb (fun g995 => ?_)
        refine XE.go (st_sld (pc' := 1180) (by decide +kernel) rfl g995.1 g995.2) ?_
        refine XE.asc ?_
        refine XE.cW (pc' := 1183) (st := []) (fun r hr => ct_X11_resend h5 r hr) (fun r hr => run_V (st := []) (by decide +kernel) co_L_law_212 (ct_X11_resend h5 r hr) rfl h5 rfl rfl (Nat.le_of_ble_eq_true rfl)) rfl rfl (fun r996 => ?_)
        refine XE.go (st_istore (j := 6) (pc' := 1185) (by decide +kernel)  rfl (by decide) rfl rfl) ?_
        refine XE.go (st_aload_n (j := 2) (i := 2) (pc' := 1186) (by decide +kernel) rfl rfl (by decide) rfl) ?_
        refine XE.asc ?_
        refine XE.cP (pc' := 1189) (st := []) (fun r hr => ct_X11_thrown h5 r hr) (fun r hr => run_V (st := []) (by decide +kernel) co_L_law_165 (ct_X11_thrown h5 r hr) rfl h5 rfl rfl (Nat.le_of_ble_eq_true rfl)) rfl rfl (fun r997 => ?_)
        refine XE.go (st_iload (j := 5) (pc' := 1191) (by decide +kernel) rfl rfl) ?_
        refine XE.bite (fun h998 => ?_) (fun h999 => ?_)
        · refine XE.go (st_icmp_eq_t (off := 5) (pc' := 1196) (by decide +kernel) (by decide) h998) ?_
          refine XE.go (st_iload (j := 5) (pc' := 1198) (by decide +kernel) rfl rfl) ?_
          refine XE.bite (fun h1000 => ?_) (fun h1001 => ?_)
          · refine XE.go (st_if_ne_f (off := 15) (pc' := 1201) (by decide +kernel) 1213 (by decide) rfl (not_not_intro h1000)) ?_
            refine XE.go (st_aload_n (j := 3) (i := 3) (pc' := 1202) (by decide +kernel) rfl rfl (by decide) rfl) ?_
            refine XE.go (st_iconst (n := 0) (pc' := 1203) (by decide +kernel) (w_eq (by decide) (by decide)) rfl) ?_
            refine XE.gdb (fun g1002 => ?_)
            refine XE.go (st_ald (k := 15) (tp := 2) (pc' := 1204) (by decide +kernel) rfl ak_15 rfl (by decide) rfl (Or.inr (Or.inr (Or.inl ⟨rfl, rfl⟩))) g1002.1 g1002.2.1 g1002.2.2) ?_
            refine XE.go (st_iload (j := 6) (pc' := 1206) (by decide +kernel) rfl rfl) ?_
            refine XE.go (st_i2l (pc' := 1207) (by decide +kernel) rfl) ?_
            refine XE.go (st_lcmp (pc' := 1208) (by decide +kernel) rfl) ?_
            refine XE.bite (fun h1003 => ?_) (fun h1004 => ?_)
            · refine XE.go (st_if_eq_t (off := 5) (pc' := 1213) (by decide +kernel) (by decide) h1003) ?_
              refine XE.go (st_goto (off := 2135) (pc' := 3348) (by decide +kernel) (by decide)) ?_
              refine XE.go (st_iinc (j := 4) (n := 6) (pc' := 3351) (by decide +kernel) rfl rfl (by decide) rfl rfl) ?_
              refine XE.go (st_goto (off := (-3328)) (pc' := 23) (by decide +kernel) (by decide)) ?_
              exact XE.pick [3, 4, 5, 6, 0] rfl (hc760 ((w (s9.1 + 6)), r996.2))
            · refine XE.go (st_if_eq_f (off := 5) (pc' := 1211) (by decide +kernel) 1213 (by decide) rfl h1004) ?_
              refine XE.go (st_iconst (n := 0) (pc' := 1212) (by decide +kernel) (w_eq (by decide) (by decide)) rfl) ?_
              refine XE.cast (hx762 _) ?_
              exact XE.rt rfl (X_zret (by decide +kernel) rfl (by decide))
          · refine XE.go (st_if_ne_t (off := 15) (pc' := 1213) (by decide +kernel) (by decide) h1001) ?_
            refine XE.go (st_goto (off := 2135) (pc' := 3348) (by decide +kernel) (by decide)) ?_
            refine XE.go (st_iinc (j := 4) (n := 6) (pc' := 3351) (by decide +kernel) rfl rfl (by decide) rfl rfl) ?_
            refine XE.go (st_goto (off := (-3328)) (pc' := 23) (by decide +kernel) (by decide)) ?_
            exact XE.pick [3, 4, 5, 6, 0] rfl (hc760 ((w (s9.1 + 6)), r996.2))
        · refine XE.go (st_icmp_eq_f (off := 5) (pc' := 1194) (by decide +kernel) 1196 (by decide) rfl h999) ?_
          refine XE.go (st_iconst (n := 0) (pc' := 1195) (by decide +kernel) (w_eq (by decide) (by decide)) rfl) ?_
          refine XE.cast (hx762 _) ?_
          exact XE.rt rfl (X_zret (by decide +kernel) rfl (by decide))
      refine XE.bite (fun h1005 => ?_) (fun h1006 => ?_)
      · refine XE.go (st_tab_in (dflt := 3308) (lo := 0) (hi := 44) (offs := #[196, 292, 372, 428, 484, 540, 596, 652, 708, 752, 820, 912, 1004, 1108, 1176, 1232, 1312, 1368, 1424, 1480, 1536, 1604, 1672, 1752, 1820, 1900, 1980, 2048, 2128, 2196, 2264, 2332, 2412, 2480, 2548, 2640, 2720, 2800, 2892, 2972, 3040, 3108, 3164, 3232, 3295]) (len := 196) (off := 1176) (pc' := 1216) (by decide +kernel) 14 h1005 (by decide) (by decide) (by decide) (by decide)) ?_
        unfold c_L_14
        refine XE.go (st_aload_n (j := 1) (i := 1) (pc' := 1217) (by decide +kernel) rfl rfl (by decide) rfl) ?_
        refine XE.go (st_aload_n (j := 0) (i := 0) (pc' := 1218) (by decide +kernel) rfl rfl (by decide) rfl) ?_
        refine XE.go (st_iload (j := 4) (pc' := 1220) (by decide +kernel) rfl rfl) ?_
        refine XE.go (st_iconst (n := 1) (pc' := 1221) (by decide +kernel) (w_eq (by decide) (by decide)) rfl) ?_
        refine XE.go (st_iadd (pc' := 1222) (by decide +kernel) rfl) ?_
        refine XE.gdb (fun g1007 => ?_)
        refine XE.go (st_sld (pc' := 1223) (by decide +kernel) rfl g1007.1 g1007.2) ?_
        refine XE.go (st_aload_n (j := 3) (i := 3) (pc' := 1224) (by decide +kernel) rfl rfl (by decide) rfl) ?_
        refine XE.asc ?_
        refine XE.cW1 (pc' := 1227) (st := []) (fun r hr => ct_L_begin r hr) (fun r hr => run_S (st := []) (by decide +kernel) co_L_law_213 (ct_L_begin r hr) rfl rfl (Nat.le_of_ble_eq_true rfl)) rfl rfl (fun r1008 => ?_)
        refine XE.go (st_istore (j := 5) (pc' := 1229) (by decide +kernel)  rfl (by decide) rfl rfl) ?_
        refine XE.go (st_aload_n (j := 2) (i := 2) (pc' := 1230) (by decide +kernel) rfl rfl (by decide) rfl) ?_
        refine XE.go (st_aload_n (j := 0) (i := 0) (pc' := 1231) (by decide +kernel) rfl rfl (by decide) rfl) ?_
        refine XE.go (st_iload (j := 4) (pc' := 1233) (by decide +kernel) rfl rfl) ?_
        refine XE.go (st_iconst (n := 1) (pc' := 1234) (by decide +kernel) (w_eq (by decide) (by decide)) rfl) ?_
        refine XE.go (st_iadd (pc' := 1235) (by decide +kernel) rfl) ?_
        refine XE.gdb (fun g1009 => ?_)
        refine XE.go (st_sld (pc' := 1236) (by decide +kernel) rfl g1009.1 g1009.2) ?_
        refine XE.asc ?_
        refine XE.cW (pc' := 1239) (st := []) (fun r hr => ct_X11_begin h5 r hr) (fun r hr => run_V (st := []) (by decide +kernel) co_L_law_215 (ct_X11_begin h5 r hr) rfl h5 rfl rfl (Nat.le_of_ble_eq_true rfl)) rfl rfl (fun r1010 => ?_)
        refine XE.go (st_istore (j := 6) (pc' := 1241) (by decide +kernel)  rfl (by decide) rfl rfl) ?_
        refine XE.go (st_aload_n (j := 2) (i := 2) (pc' := 1242) (by decide +kernel) rfl rfl (by decide) rfl) ?_
        refine XE.asc ?_
        refine XE.cP (pc' := 1245) (st := []) (fun r hr => ct_X11_thrown h5 r hr) (fun r hr => run_V (st := []) (by decide +kernel) co_L_law_165 (ct_X11_thrown h5 r hr) rfl h5 rfl rfl (Nat.le_of_ble_eq_true rfl)) rfl rfl (fun r1011 => ?_)
        refine XE.go (st_iload (j := 5) (pc' := 1247) (by decide +kernel) rfl rfl) ?_
        refine XE.bite (fun h1012 => ?_) (fun h1013 => ?_)
        · refine XE.go (st_icmp_eq_t (off := 5) (pc' := 1252) (by decide +kernel) (by decide) h1012) ?_
          refine XE.go (st_iload (j := 5) (pc' := 1254) (by decide +kernel) rfl rfl) ?_
          refine XE.bite (fun h1014 => ?_) (fun h1015 => ?_)
          · refine XE.go (st_if_ne_f (off := 15) (pc' := 1257) (by decide +kernel) 1269 (by decide) rfl (not_not_intro h1014)) ?_
            refine XE.go (st_aload_n (j := 3) (i := 3) (pc' := 1258) (by decide +kernel) rfl rfl (by decide) rfl) ?_
            refine XE.go (st_iconst (n := 0) (pc' := 1259) (by decide +kernel) (w_eq (by decide) (by decide)) rfl) ?_
            refine XE.gdb (fun g1016 => ?_)
            refine XE.go (st_ald (k := 15) (tp := 2) (pc' := 1260) (by decide +kernel) rfl ak_15 rfl (by decide) rfl (Or.inr (Or.inr (Or.inl ⟨rfl, rfl⟩))) g1016.1 g1016.2.1 g1016.2.2) ?_
            refine XE.go (st_iload (j := 6) (pc' := 1262) (by decide +kernel) rfl rfl) ?_
            refine XE.go (st_i2l (pc' := 1263) (by decide +kernel) rfl) ?_
            refine XE.go (st_lcmp (pc' := 1264) (by decide +kernel) rfl) ?_
            refine XE.bite (fun h1017 => ?_) (fun h1018 => ?_)
            · refine XE.go (st_if_eq_t (off := 5) (pc' := 1269) (by decide +kernel) (by decide) h1017) ?_
              refine XE.go (st_goto (off := 2079) (pc' := 3348) (by decide +kernel) (by decide)) ?_
              refine XE.go (st_iinc (j := 4) (n := 6) (pc' := 3351) (by decide +kernel) rfl rfl (by decide) rfl rfl) ?_
              refine XE.go (st_goto (off := (-3328)) (pc' := 23) (by decide +kernel) (by decide)) ?_
              exact XE.pick [3, 4, 5, 6, 0] rfl (hc760 ((w (s9.1 + 6)), r1010.2))
            · refine XE.go (st_if_eq_f (off := 5) (pc' := 1267) (by decide +kernel) 1269 (by decide) rfl h1018) ?_
              refine XE.go (st_iconst (n := 0) (pc' := 1268) (by decide +kernel) (w_eq (by decide) (by decide)) rfl) ?_
              refine XE.cast (hx762 _) ?_
              exact XE.rt rfl (X_zret (by decide +kernel) rfl (by decide))
          · refine XE.go (st_if_ne_t (off := 15) (pc' := 1269) (by decide +kernel) (by decide) h1015) ?_
            refine XE.go (st_goto (off := 2079) (pc' := 3348) (by decide +kernel) (by decide)) ?_
            refine XE.go (st_iinc (j := 4) (n := 6) (pc' := 3351) (by decide +kernel) rfl rfl (by decide) rfl rfl) ?_
            refine XE.go (st_goto (off := (-3328)) (pc' := 23) (by decide +kernel) (by decide)) ?_
            exact XE.pick [3, 4, 5, 6, 0] rfl (hc760 ((w (s9.1 + 6)), r1010.2))
        · refine XE.go (st_icmp_eq_f (off := 5) (pc' := 1250) (by decide +kernel) 1252 (by decide) rfl h1013) ?_
          refine XE.go (st_iconst (n := 0) (pc' := 1251) (by decide +kernel) (w_eq (by decide) (by decide)) rfl) ?_
          refine XE.cast (hx762 _) ?_
          exact XE.rt rfl (X_zret (by decide +kernel) rfl (by decide))
      refine XE.bite (fun h1019 => ?_) (fun h1020 => ?_)
      · refine XE.go (st_tab_in (dflt := 3308) (lo := 0) (hi := 44) (offs := #[196, 292, 372, 428, 484, 540, 596, 652, 708, 752, 820, 912, 1004, 1108, 1176, 1232, 1312, 1368, 1424, 1480, 1536, 1604, 1672, 1752, 1820, 1900, 1980, 2048, 2128, 2196, 2264, 2332, 2412, 2480, 2548, 2640, 2720, 2800, 2892, 2972, 3040, 3108, 3164, 3232, 3295]) (len := 196) (off := 1232) (pc' := 1272) (by decide +kernel) 15 h1019 (by decide) (by decide) (by decide) (by decide)) ?_
        unfold c_L_15
        refine XE.go (st_aload_n (j := 1) (i := 1) (pc' := 1273) (by decide +kernel) rfl rfl (by decide) rfl) ?_
        refine XE.go (st_aload_n (j := 0) (i := 0) (pc' := 1274) (by decide +kernel) rfl rfl (by decide) rfl) ?_
        refine XE.go (st_iload (j := 4) (pc' := 1276) (by decide +kernel) rfl rfl) ?_
        refine XE.go (st_iconst (n := 1) (pc' := 1277) (by decide +kernel) (w_eq (by decide) (by decide)) rfl) ?_
        refine XE.go (st_iadd (pc' := 1278) (by decide +kernel) rfl) ?_
        refine XE.gdb (fun g1021 => ?_)
        refine XE.go (st_sld (pc' := 1279) (by decide +kernel) rfl g1021.1 g1021.2) ?_
        refine XE.go (st_aload_n (j := 0) (i := 0) (pc' := 1280) (by decide +kernel) rfl rfl (by decide) rfl) ?_
        refine XE.go (st_iload (j := 4) (pc' := 1282) (by decide +kernel) rfl rfl) ?_
        refine XE.go (st_iconst (n := 2) (pc' := 1283) (by decide +kernel) (w_eq (by decide) (by decide)) rfl) ?_
        refine XE.go (st_iadd (pc' := 1284) (by decide +kernel) rfl) ?_
        refine XE.gdb (fun g1022 => ?_)
        refine XE.go (st_sld (pc' := 1285) (by decide +kernel) rfl g1022.1 g1022.2) ?_
        refine XE.go (st_aload_n (j := 0) (i := 0) (pc' := 1286) (by decide +kernel) rfl rfl (by decide) rfl) ?_
        refine XE.go (st_iload (j := 4) (pc' := 1288) (by decide +kernel) rfl rfl) ?_
        refine XE.go (st_iconst (n := 3) (pc' := 1289) (by decide +kernel) (w_eq (by decide) (by decide)) rfl) ?_
        refine XE.go (st_iadd (pc' := 1290) (by decide +kernel) rfl) ?_
        refine XE.gdb (fun g1023 => ?_)
        refine XE.go (st_sld (pc' := 1291) (by decide +kernel) rfl g1023.1 g1023.2) ?_
        refine XE.go (st_aload_n (j := 3) (i := 3) (pc' := 1292) (by decide +kernel) rfl rfl (by decide) rfl) ?_
        refine XE.asc ?_
        refine XE.cW1 (pc' := 1295) (st := []) (fun r hr => ct_L_attach r hr) (fun r hr => run_S (st := []) (by decide +kernel) co_L_law_216 (ct_L_attach r hr) rfl rfl (Nat.le_of_ble_eq_true rfl)) rfl rfl (fun r1024 => ?_)
        refine XE.go (st_istore (j := 5) (pc' := 1297) (by decide +kernel)  rfl (by decide) rfl rfl) ?_
        refine XE.go (st_aload_n (j := 2) (i := 2) (pc' := 1298) (by decide +kernel) rfl rfl (by decide) rfl) ?_
        refine XE.go (st_aload_n (j := 0) (i := 0) (pc' := 1299) (by decide +kernel) rfl rfl (by decide) rfl) ?_
        refine XE.go (st_iload (j := 4) (pc' := 1301) (by decide +kernel) rfl rfl) ?_
        refine XE.go (st_iconst (n := 1) (pc' := 1302) (by decide +kernel) (w_eq (by decide) (by decide)) rfl) ?_
        refine XE.go (st_iadd (pc' := 1303) (by decide +kernel) rfl) ?_
        refine XE.gdb (fun g1025 => ?_)
        refine XE.go (st_sld (pc' := 1304) (by decide +kernel) rfl g1025.1 g1025.2) ?_
        refine XE.go (st_aload_n (j := 0) (i := 0) (pc' := 1305) (by decide +kernel) rfl rfl (by decide) rfl) ?_
        refine XE.go (st_iload (j := 4) (pc' := 1307) (by decide +kernel) rfl rfl) ?_
        refine XE.go (st_iconst (n := 2) (pc' := 1308) (by decide +kernel) (w_eq (by decide) (by decide)) rfl) ?_
        refine XE.go (st_iadd (pc' := 1309) (by decide +kernel) rfl) ?_
        refine XE.gdb (fun g1026 => ?_)
        refine XE.go (st_sld (pc' := 1310) (by decide +kernel) rfl g1026.1 g1026.2) ?_
        refine XE.go (st_aload_n (j := 0) (i := 0) (pc' := 1311) (by decide +kernel) rfl rfl (by decide) rfl) ?_
        refine XE.go (st_iload (j := 4) (pc' := 1313) (by decide +kernel) rfl rfl) ?_
        refine XE.go (st_iconst (n := 3) (pc' := 1314) (by decide +kernel) (w_eq (by decide) (by decide)) rfl) ?_
        refine XE.go (st_iadd (pc' := 1315) (by decide +kernel) rfl) ?_
        refine XE.gdb (fun g1027 => ?_)
        refine XE.go (st_sld (pc' := 1316) (by decide +kernel) rfl g1027.1 g1027.2) ?_
        refine XE.asc ?_
        refine XE.cW (pc' := 1319) (st := []) (fun r hr => ct_X11_attach h5 r hr) (fun r hr => run_V (st := []) (by decide +kernel) co_L_law_218 (ct_X11_attach h5 r hr) rfl h5 rfl rfl (Nat.le_of_ble_eq_true rfl)) rfl rfl (fun r1028 => ?_)
        refine XE.go (st_istore (j := 6) (pc' := 1321) (by decide +kernel)  rfl (by decide) rfl rfl) ?_
        refine XE.go (st_aload_n (j := 2) (i := 2) (pc' := 1322) (by decide +kernel) rfl rfl (by decide) rfl) ?_
        refine XE.asc ?_
        refine XE.cP (pc' := 1325) (st := []) (fun r hr => ct_X11_thrown h5 r hr) (fun r hr => run_V (st := []) (by decide +kernel) co_L_law_165 (ct_X11_thrown h5 r hr) rfl h5 rfl rfl (Nat.le_of_ble_eq_true rfl)) rfl rfl (fun r1029 => ?_)
        refine XE.go (st_iload (j := 5) (pc' := 1327) (by decide +kernel) rfl rfl) ?_
        refine XE.bite (fun h1030 => ?_) (fun h1031 => ?_)
        · refine XE.go (st_icmp_eq_t (off := 5) (pc' := 1332) (by decide +kernel) (by decide) h1030) ?_
          refine XE.go (st_iload (j := 5) (pc' := 1334) (by decide +kernel) rfl rfl) ?_
          refine XE.bite (fun h1032 => ?_) (fun h1033 => ?_)
          · refine XE.go (st_if_ne_f (off := 15) (pc' := 1337) (by decide +kernel) 1349 (by decide) rfl (not_not_intro h1032)) ?_
            refine XE.go (st_aload_n (j := 3) (i := 3) (pc' := 1338) (by decide +kernel) rfl rfl (by decide) rfl) ?_
            refine XE.go (st_iconst (n := 0) (pc' := 1339) (by decide +kernel) (w_eq (by decide) (by decide)) rfl) ?_
            refine XE.gdb (fun g1034 => ?_)
            refine XE.go (st_ald (k := 15) (tp := 2) (pc' := 1340) (by decide +kernel) rfl ak_15 rfl (by decide) rfl (Or.inr (Or.inr (Or.inl ⟨rfl, rfl⟩))) g1034.1 g1034.2.1 g1034.2.2) ?_
            refine XE.go (st_iload (j := 6) (pc' := 1342) (by decide +kernel) rfl rfl) ?_
            refine XE.go (st_i2l (pc' := 1343) (by decide +kernel) rfl) ?_
            refine XE.go (st_lcmp (pc' := 1344) (by decide +kernel) rfl) ?_
            refine XE.bite (fun h1035 => ?_) (fun h1036 => ?_)
            · refine XE.go (st_if_eq_t (off := 5) (pc' := 1349) (by decide +kernel) (by decide) h1035) ?_
              refine XE.go (st_goto (off := 1999) (pc' := 3348) (by decide +kernel) (by decide)) ?_
              refine XE.go (st_iinc (j := 4) (n := 6) (pc' := 3351) (by decide +kernel) rfl rfl (by decide) rfl rfl) ?_
              refine XE.go (st_goto (off := (-3328)) (pc' := 23) (by decide +kernel) (by decide)) ?_
              exact XE.pick [3, 4, 5, 6, 0] rfl (hc760 ((w (s9.1 + 6)), r1028.2))
            · refine XE.go (st_if_eq_f (off := 5) (pc' := 1347) (by decide +kernel) 1349 (by decide) rfl h1036) ?_
              refine XE.go (st_iconst (n := 0) (pc' := 1348) (by decide +kernel) (w_eq (by decide) (by decide)) rfl) ?_
              refine XE.cast (hx762 _) ?_
              exact XE.rt rfl (X_zret (by decide +kernel) rfl (by decide))
          · refine XE.go (st_if_ne_t (off := 15) (pc' := 1349) (by decide +kernel) (by decide) h1033) ?_
            refine XE.go (st_goto (off := 1999) (pc' := 3348) (by decide +kernel) (by decide)) ?_
            refine XE.go (st_iinc (j := 4) (n := 6) (pc' := 3351) (by decide +kernel) rfl rfl (by decide) rfl rfl) ?_
            refine XE.go (st_goto (off := (-3328)) (pc' := 23) (by decide +kernel) (by decide)) ?_
            exact XE.pick [3, 4, 5, 6, 0] rfl (hc760 ((w (s9.1 + 6)), r1028.2))
        · refine XE.go (st_icmp_eq_f (off := 5) (pc' := 1330) (by decide +kernel) 1332 (by decide) rfl h1031) ?_
          refine XE.go (st_iconst (n := 0) (pc' := 1331) (by decide +kernel) (w_eq (by decide) (by decide)) rfl) ?_
          refine XE.cast (hx762 _) ?_
          exact XE.rt rfl (X_zret (by decide +kernel) rfl (by decide))
      refine XE.bite (fun h1037 => ?_) (fun h1038 => ?_)
      · refine XE.go (st_tab_in (dflt := 3308) (lo := 0) (hi := 44) (offs := #[196, 292, 372, 428, 484, 540, 596, 652, 708, 752, 820, 912, 1004, 1108, 1176, 1232, 1312, 1368, 1424, 1480, 1536, 1604, 1672, 1752, 1820, 1900, 1980, 2048, 2128, 2196, 2264, 2332, 2412, 2480, 2548, 2640, 2720, 2800, 2892, 2972, 3040, 3108, 3164, 3232, 3295]) (len := 196) (off := 1312) (pc' := 1352) (by decide +kernel) 16 h1037 (by decide) (by decide) (by decide) (by decide)) ?_
        unfold c_L_16
        refine XE.go (st_aload_n (j := 1) (i := 1) (pc' := 1353) (by decide +kernel) rfl rfl (by decide) rfl) ?_
        refine XE.go (st_aload_n (j := 0) (i := 0) (pc' := 1354) (by decide +kernel) rfl rfl (by decide) rfl) ?_
        refine XE.go (st_iload (j := 4) (pc' := 1356) (by decide +kernel) rfl rfl) ?_
        refine XE.go (st_iconst (n := 1) (pc' := 1357) (by decide +kernel) (w_eq (by decide) (by decide)) rfl) ?_
        refine XE.go (st_iadd (pc' := 1358) (by decide +kernel) rfl) ?_
        refine XE.gdb (fun g1039 => ?_)
        refine XE.go (st_sld (pc' := 1359) (by decide +kernel) rfl g1039.1 g1039.2) ?_
        refine XE.go (st_aload_n (j := 3) (i := 3) (pc' := 1360) (by decide +kernel) rfl rfl (by decide) rfl) ?_
        refine XE.asc ?_
        refine XE.cW1 (pc' := 1363) (st := []) (fun r hr => ct_L_commit r hr) (fun r hr => run_S (st := []) (by decide +kernel) co_L_law_219 (ct_L_commit r hr) rfl rfl (Nat.le_of_ble_eq_true rfl)) rfl rfl (fun r1040 => ?_)
        refine XE.go (st_istore (j := 5) (pc' := 1365) (by decide +kernel)  rfl (by decide) rfl rfl) ?_
        refine XE.go (st_aload_n (j := 2) (i := 2) (pc' := 1366) (by decide +kernel) rfl rfl (by decide) rfl) ?_
        refine XE.go (st_aload_n (j := 0) (i := 0) (pc' := 1367) (by decide +kernel) rfl rfl (by decide) rfl) ?_
        refine XE.go (st_iload (j := 4) (pc' := 1369) (by decide +kernel) rfl rfl) ?_
        refine XE.go (st_iconst (n := 1) (pc' := 1370) (by decide +kernel) (w_eq (by decide) (by decide)) rfl) ?_
        refine XE.go (st_iadd (pc' := 1371) (by decide +kernel) rfl) ?_
        refine XE.gdb (fun g1041 => ?_)
        refine XE.go (st_sld (pc' := 1372) (by decide +kernel) rfl g1041.1 g1041.2) ?_
        refine XE.asc ?_
        refine XE.cW (pc' := 1375) (st := []) (fun r hr => ct_X11_commit h5 r hr) (fun r hr => run_V (st := []) (by decide +kernel) co_L_law_221 (ct_X11_commit h5 r hr) rfl h5 rfl rfl (Nat.le_of_ble_eq_true rfl)) rfl rfl (fun r1042 => ?_)
        refine XE.go (st_istore (j := 6) (pc' := 1377) (by decide +kernel)  rfl (by decide) rfl rfl) ?_
        refine XE.go (st_aload_n (j := 2) (i := 2) (pc' := 1378) (by decide +kernel) rfl rfl (by decide) rfl) ?_
        refine XE.asc ?_
        refine XE.cP (pc' := 1381) (st := []) (fun r hr => ct_X11_thrown h5 r hr) (fun r hr => run_V (st := []) (by decide +kernel) co_L_law_165 (ct_X11_thrown h5 r hr) rfl h5 rfl rfl (Nat.le_of_ble_eq_true rfl)) rfl rfl (fun r1043 => ?_)
        refine XE.go (st_iload (j := 5) (pc' := 1383) (by decide +kernel) rfl rfl) ?_
        refine XE.bite (fun h1044 => ?_) (fun h1045 => ?_)
        · refine XE.go (st_icmp_eq_t (off := 5) (pc' := 1388) (by decide +kernel) (by decide) h1044) ?_
          refine XE.go (st_iload (j := 5) (pc' := 1390) (by decide +kernel) rfl rfl) ?_
          refine XE.bite (fun h1046 => ?_) (fun h1047 => ?_)
          · refine XE.go (st_if_ne_f (off := 15) (pc' := 1393) (by decide +kernel) 1405 (by decide) rfl (not_not_intro h1046)) ?_
            refine XE.go (st_aload_n (j := 3) (i := 3) (pc' := 1394) (by decide +kernel) rfl rfl (by decide) rfl) ?_
            refine XE.go (st_iconst (n := 0) (pc' := 1395) (by decide +kernel) (w_eq (by decide) (by decide)) rfl) ?_
            refine XE.gdb (fun g1048 => ?_)
            refine XE.go (st_ald (k := 15) (tp := 2) (pc' := 1396) (by decide +kernel) rfl ak_15 rfl (by decide) rfl (Or.inr (Or.inr (Or.inl ⟨rfl, rfl⟩))) g1048.1 g1048.2.1 g1048.2.2) ?_
            refine XE.go (st_iload (j := 6) (pc' := 1398) (by decide +kernel) rfl rfl) ?_
            refine XE.go (st_i2l (pc' := 1399) (by decide +kernel) rfl) ?_
            refine XE.go (st_lcmp (pc' := 1400) (by decide +kernel) rfl) ?_
            refine XE.bite (fun h1049 => ?_) (fun h1050 => ?_)
            · refine XE.go (st_if_eq_t (off := 5) (pc' := 1405) (by decide +kernel) (by decide) h1049) ?_
              refine XE.go (st_goto (off := 1943) (pc' := 3348) (by decide +kernel) (by decide)) ?_
              refine XE.go (st_iinc (j := 4) (n := 6) (pc' := 3351) (by decide +kernel) rfl rfl (by decide) rfl rfl) ?_
              refine XE.go (st_goto (off := (-3328)) (pc' := 23) (by decide +kernel) (by decide)) ?_
              exact XE.pick [3, 4, 5, 6, 0] rfl (hc760 ((w (s9.1 + 6)), r1042.2))
            · refine XE.go (st_if_eq_f (off := 5) (pc' := 1403) (by decide +kernel) 1405 (by decide) rfl h1050) ?_
              refine XE.go (st_iconst (n := 0) (pc' := 1404) (by decide +kernel) (w_eq (by decide) (by decide)) rfl) ?_
              refine XE.cast (hx762 _) ?_
              exact XE.rt rfl (X_zret (by decide +kernel) rfl (by decide))
          · refine XE.go (st_if_ne_t (off := 15) (pc' := 1405) (by decide +kernel) (by decide) h1047) ?_
            refine XE.go (st_goto (off := 1943) (pc' := 3348) (by decide +kernel) (by decide)) ?_
            refine XE.go (st_iinc (j := 4) (n := 6) (pc' := 3351) (by decide +kernel) rfl rfl (by decide) rfl rfl) ?_
            refine XE.go (st_goto (off := (-3328)) (pc' := 23) (by decide +kernel) (by decide)) ?_
            exact XE.pick [3, 4, 5, 6, 0] rfl (hc760 ((w (s9.1 + 6)), r1042.2))
        · refine XE.go (st_icmp_eq_f (off := 5) (pc' := 1386) (by decide +kernel) 1388 (by decide) rfl h1045) ?_
          refine XE.go (st_iconst (n := 0) (pc' := 1387) (by decide +kernel) (w_eq (by decide) (by decide)) rfl) ?_
          refine XE.cast (hx762 _) ?_
          exact XE.rt rfl (X_zret (by decide +kernel) rfl (by decide))
      refine XE.bite (fun h1051 => ?_) (fun h1052 => ?_)
      · refine XE.go (st_tab_in (dflt := 3308) (lo := 0) (hi := 44) (offs := #[196, 292, 372, 428, 484, 540, 596, 652, 708, 752, 820, 912, 1004, 1108, 1176, 1232, 1312, 1368, 1424, 1480, 1536, 1604, 1672, 1752, 1820, 1900, 1980, 2048, 2128, 2196, 2264, 2332, 2412, 2480, 2548, 2640, 2720, 2800, 2892, 2972, 3040, 3108, 3164, 3232, 3295]) (len := 196) (off := 1368) (pc' := 1408) (by decide +kernel) 17 h1051 (by decide) (by decide) (by decide) (by decide)) ?_
        unfold c_L_17
        refine XE.go (st_aload_n (j := 1) (i := 1) (pc' := 1409) (by decide +kernel) rfl rfl (by decide) rfl) ?_
        refine XE.go (st_aload_n (j := 0) (i := 0) (pc' := 1410) (by decide +kernel) rfl rfl (by decide) rfl) ?_
        refine XE.go (st_iload (j := 4) (pc' := 1412) (by decide +kernel) rfl rfl) ?_
        refine XE.go (st_iconst (n := 1) (pc' := 1413) (by decide +kernel) (w_eq (by decide) (by decide)) rfl) ?_
        refine XE.go (st_iadd (pc' := 1414) (by decide +kernel) rfl) ?_
        refine XE.gdb (fun g1053 => ?_)
        refine XE.go (st_sld (pc' := 1415) (by decide +kernel) rfl g1053.1 g1053.2) ?_
        refine XE.go (st_aload_n (j := 3) (i := 3) (pc' := 1416) (by decide +kernel) rfl rfl (by decide) rfl) ?_
        refine XE.asc ?_
        refine XE.cW1 (pc' := 1419) (st := []) (fun r hr => ct_L_abort r hr) (fun r hr => run_S (st := []) (by decide +kernel) co_L_law_222 (ct_L_abort r hr) rfl rfl (Nat.le_of_ble_eq_true rfl)) rfl rfl (fun r1054 => ?_)
        refine XE.go (st_istore (j := 5) (pc' := 1421) (by decide +kernel)  rfl (by decide) rfl rfl) ?_
        refine XE.go (st_aload_n (j := 2) (i := 2) (pc' := 1422) (by decide +kernel) rfl rfl (by decide) rfl) ?_
        refine XE.go (st_aload_n (j := 0) (i := 0) (pc' := 1423) (by decide +kernel) rfl rfl (by decide) rfl) ?_
        refine XE.go (st_iload (j := 4) (pc' := 1425) (by decide +kernel) rfl rfl) ?_
        refine XE.go (st_iconst (n := 1) (pc' := 1426) (by decide +kernel) (w_eq (by decide) (by decide)) rfl) ?_
        refine XE.go (st_iadd (pc' := 1427) (by decide +kernel) rfl) ?_
        refine XE.gdb (fun g1055 => ?_)
        refine XE.go (st_sld (pc' := 1428) (by decide +kernel) rfl g1055.1 g1055.2) ?_
        refine XE.asc ?_
        refine XE.cW (pc' := 1431) (st := []) (fun r hr => ct_X11_abort h5 r hr) (fun r hr => run_V (st := []) (by decide +kernel) co_L_law_224 (ct_X11_abort h5 r hr) rfl h5 rfl rfl (Nat.le_of_ble_eq_true rfl)) rfl rfl (fun r1056 => ?_)
        refine XE.go (st_istore (j := 6) (pc' := 1433) (by decide +kernel)  rfl (by decide) rfl rfl) ?_
        refine XE.go (st_aload_n (j := 2) (i := 2) (pc' := 1434) (by decide +kernel) rfl rfl (by decide) rfl) ?_
        refine XE.asc ?_
        refine XE.cP (pc' := 1437) (st := []) (fun r hr => ct_X11_thrown h5 r hr) (fun r hr => run_V (st := []) (by decide +kernel) co_L_law_165 (ct_X11_thrown h5 r hr) rfl h5 rfl rfl (Nat.le_of_ble_eq_true rfl)) rfl rfl (fun r1057 => ?_)
        refine XE.go (st_iload (j := 5) (pc' := 1439) (by decide +kernel) rfl rfl) ?_
        refine XE.bite (fun h1058 => ?_) (fun h1059 => ?_)
        · refine XE.go (st_icmp_eq_t (off := 5) (pc' := 1444) (by decide +kernel) (by decide) h1058) ?_
          refine XE.go (st_iload (j := 5) (pc' := 1446) (by decide +kernel) rfl rfl) ?_
          refine XE.bite (fun h1060 => ?_) (fun h1061 => ?_)
          · refine XE.go (st_if_ne_f (off := 15) (pc' := 1449) (by decide +kernel) 1461 (by decide) rfl (not_not_intro h1060)) ?_
            refine XE.go (st_aload_n (j := 3) (i := 3) (pc' := 1450) (by decide +kernel) rfl rfl (by decide) rfl) ?_
            refine XE.go (st_iconst (n := 0) (pc' := 1451) (by decide +kernel) (w_eq (by decide) (by decide)) rfl) ?_
            refine XE.gdb (fun g1062 => ?_)
            refine XE.go (st_ald (k := 15) (tp := 2) (pc' := 1452) (by decide +kernel) rfl ak_15 rfl (by decide) rfl (Or.inr (Or.inr (Or.inl ⟨rfl, rfl⟩))) g1062.1 g1062.2.1 g1062.2.2) ?_
            refine XE.go (st_iload (j := 6) (pc' := 1454) (by decide +kernel) rfl rfl) ?_
            refine XE.go (st_i2l (pc' := 1455) (by decide +kernel) rfl) ?_
            refine XE.go (st_lcmp (pc' := 1456) (by decide +kernel) rfl) ?_
            refine XE.bite (fun h1063 => ?_) (fun h1064 => ?_)
            · refine XE.go (st_if_eq_t (off := 5) (pc' := 1461) (by decide +kernel) (by decide) h1063) ?_
              refine XE.go (st_goto (off := 1887) (pc' := 3348) (by decide +kernel) (by decide)) ?_
              refine XE.go (st_iinc (j := 4) (n := 6) (pc' := 3351) (by decide +kernel) rfl rfl (by decide) rfl rfl) ?_
              refine XE.go (st_goto (off := (-3328)) (pc' := 23) (by decide +kernel) (by decide)) ?_
              exact XE.pick [3, 4, 5, 6, 0] rfl (hc760 ((w (s9.1 + 6)), r1056.2))
            · refine XE.go (st_if_eq_f (off := 5) (pc' := 1459) (by decide +kernel) 1461 (by decide) rfl h1064) ?_
              refine XE.go (st_iconst (n := 0) (pc' := 1460) (by decide +kernel) (w_eq (by decide) (by decide)) rfl) ?_
              refine XE.cast (hx762 _) ?_
              exact XE.rt rfl (X_zret (by decide +kernel) rfl (by decide))
          · refine XE.go (st_if_ne_t (off := 15) (pc' := 1461) (by decide +kernel) (by decide) h1061) ?_
            refine XE.go (st_goto (off := 1887) (pc' := 3348) (by decide +kernel) (by decide)) ?_
            refine XE.go (st_iinc (j := 4) (n := 6) (pc' := 3351) (by decide +kernel) rfl rfl (by decide) rfl rfl) ?_
            refine XE.go (st_goto (off := (-3328)) (pc' := 23) (by decide +kernel) (by decide)) ?_
            exact XE.pick [3, 4, 5, 6, 0] rfl (hc760 ((w (s9.1 + 6)), r1056.2))
        · refine XE.go (st_icmp_eq_f (off := 5) (pc' := 1442) (by decide +kernel) 1444 (by decide) rfl h1059) ?_
          refine XE.go (st_iconst (n := 0) (pc' := 1443) (by decide +kernel) (w_eq (by decide) (by decide)) rfl) ?_
          refine XE.cast (hx762 _) ?_
          exact XE.rt rfl (X_zret (by decide +kernel) rfl (by decide))
      refine XE.bite (fun h1065 => ?_) (fun h1066 => ?_)
      · refine XE.go (st_tab_in (dflt := 3308) (lo := 0) (hi := 44) (offs := #[196, 292, 372, 428, 484, 540, 596, 652, 708, 752, 820, 912, 1004, 1108, 1176, 1232, 1312, 1368, 1424, 1480, 1536, 1604, 1672, 1752, 1820, 1900, 1980, 2048, 2128, 2196, 2264, 2332, 2412, 2480, 2548, 2640, 2720, 2800, 2892, 2972, 3040, 3108, 3164, 3232, 3295]) (len := 196) (off := 1424) (pc' := 1464) (by decide +kernel) 18 h1065 (by decide) (by decide) (by decide) (by decide)) ?_
        unfold c_L_18
        refine XE.go (st_aload_n (j := 1) (i := 1) (pc' := 1465) (by decide +kernel) rfl rfl (by decide) rfl) ?_
        refine XE.go (st_aload_n (j := 0) (i := 0) (pc' := 1466) (by decide +kernel) rfl rfl (by decide) rfl) ?_
        refine XE.go (st_iload (j := 4) (pc' := 1468) (by decide +kernel) rfl rfl) ?_
        refine XE.go (st_iconst (n := 1) (pc' := 1469) (by decide +kernel) (w_eq (by decide) (by decide)) rfl) ?_
        refine XE.go (st_iadd (pc' := 1470) (by decide +kernel) rfl) ?_
        refine XE.gdb (fun g1067 => ?_)
        refine XE.go (st_sld (pc' := 1471) (by decide +kernel) rfl g1067.1 g1067.2) ?_
        refine XE.go (st_aload_n (j := 3) (i := 3) (pc' := 1472) (by decide +kernel) rfl rfl (by decide) rfl) ?_
        refine XE.asc ?_
        refine XE.cW1 (pc' := 1475) (st := []) (fun r hr => ct_L_group r hr) (fun r hr => run_S (st := []) (by decide +kernel) co_L_law_225 (ct_L_group r hr) rfl rfl (Nat.le_of_ble_eq_true rfl)) rfl rfl (fun r1068 => ?_)
        refine XE.go (st_istore (j := 5) (pc' := 1477) (by decide +kernel)  rfl (by decide) rfl rfl) ?_
        refine XE.go (st_aload_n (j := 2) (i := 2) (pc' := 1478) (by decide +kernel) rfl rfl (by decide) rfl) ?_
        refine XE.go (st_aload_n (j := 0) (i := 0) (pc' := 1479) (by decide +kernel) rfl rfl (by decide) rfl) ?_
        refine XE.go (st_iload (j := 4) (pc' := 1481) (by decide +kernel) rfl rfl) ?_
        refine XE.go (st_iconst (n := 1) (pc' := 1482) (by decide +kernel) (w_eq (by decide) (by decide)) rfl) ?_
        refine XE.go (st_iadd (pc' := 1483) (by decide +kernel) rfl) ?_
        refine XE.gdb (fun g1069 => ?_)
        refine XE.go (st_sld (pc' := 1484) (by decide +kernel) rfl g1069.1 g1069.2) ?_
        refine XE.asc ?_
        refine XE.cW (pc' := 1487) (st := []) (fun r hr => ct_X11_group h5 r hr) (fun r hr => run_V (st := []) (by decide +kernel) co_L_law_227 (ct_X11_group h5 r hr) rfl h5 rfl rfl (Nat.le_of_ble_eq_true rfl)) rfl rfl (fun r1070 => ?_)
        refine XE.go (st_istore (j := 6) (pc' := 1489) (by decide +kernel)  rfl (by decide) rfl rfl) ?_
        refine XE.go (st_aload_n (j := 2) (i := 2) (pc' := 1490) (by decide +kernel) rfl rfl (by decide) rfl) ?_
        refine XE.asc ?_
        refine XE.cP (pc' := 1493) (st := []) (fun r hr => ct_X11_thrown h5 r hr) (fun r hr => run_V (st := []) (by decide +kernel) co_L_law_165 (ct_X11_thrown h5 r hr) rfl h5 rfl rfl (Nat.le_of_ble_eq_true rfl)) rfl rfl (fun r1071 => ?_)
        refine XE.go (st_iload (j := 5) (pc' := 1495) (by decide +kernel) rfl rfl) ?_
        refine XE.bite (fun h1072 => ?_) (fun h1073 => ?_)
        · refine XE.go (st_icmp_eq_t (off := 5) (pc' := 1500) (by decide +kernel) (by decide) h1072) ?_
          refine XE.go (st_iload (j := 5) (pc' := 1502) (by decide +kernel) rfl rfl) ?_
          refine XE.bite (fun h1074 => ?_) (fun h1075 => ?_)
          · refine XE.go (st_if_ne_f (off := 15) (pc' := 1505) (by decide +kernel) 1517 (by decide) rfl (not_not_intro h1074)) ?_
            refine XE.go (st_aload_n (j := 3) (i := 3) (pc' := 1506) (by decide +kernel) rfl rfl (by decide) rfl) ?_
            refine XE.go (st_iconst (n := 0) (pc' := 1507) (by decide +kernel) (w_eq (by decide) (by decide)) rfl) ?_
            refine XE.gdb (fun g1076 => ?_)
            refine XE.go (st_ald (k := 15) (tp := 2) (pc' := 1508) (by decide +kernel) rfl ak_15 rfl (by decide) rfl (Or.inr (Or.inr (Or.inl ⟨rfl, rfl⟩))) g1076.1 g1076.2.1 g1076.2.2) ?_
            refine XE.go (st_iload (j := 6) (pc' := 1510) (by decide +kernel) rfl rfl) ?_
            refine XE.go (st_i2l (pc' := 1511) (by decide +kernel) rfl) ?_
            refine XE.go (st_lcmp (pc' := 1512) (by decide +kernel) rfl) ?_
            refine XE.bite (fun h1077 => ?_) (fun h1078 => ?_)
            · refine XE.go (st_if_eq_t (off := 5) (pc' := 1517) (by decide +kernel) (by decide) h1077) ?_
              refine XE.go (st_goto (off := 1831) (pc' := 3348) (by decide +kernel) (by decide)) ?_
              refine XE.go (st_iinc (j := 4) (n := 6) (pc' := 3351) (by decide +kernel) rfl rfl (by decide) rfl rfl) ?_
              refine XE.go (st_goto (off := (-3328)) (pc' := 23) (by decide +kernel) (by decide)) ?_
              exact XE.pick [3, 4, 5, 6, 0] rfl (hc760 ((w (s9.1 + 6)), r1070.2))
            · refine XE.go (st_if_eq_f (off := 5) (pc' := 1515) (by decide +kernel) 1517 (by decide) rfl h1078) ?_
              refine XE.go (st_iconst (n := 0) (pc' := 1516) (by decide +kernel) (w_eq (by decide) (by decide)) rfl) ?_
              refine XE.cast (hx762 _) ?_
              exact XE.rt rfl (X_zret (by decide +kernel) rfl (by decide))
          · refine XE.go (st_if_ne_t (off := 15) (pc' := 1517) (by decide +kernel) (by decide) h1075) ?_
            refine XE.go (st_goto (off := 1831) (pc' := 3348) (by decide +kernel) (by decide)) ?_
            refine XE.go (st_iinc (j := 4) (n := 6) (pc' := 3351) (by decide +kernel) rfl rfl (by decide) rfl rfl) ?_
            refine XE.go (st_goto (off := (-3328)) (pc' := 23) (by decide +kernel) (by decide)) ?_
            exact XE.pick [3, 4, 5, 6, 0] rfl (hc760 ((w (s9.1 + 6)), r1070.2))
        · refine XE.go (st_icmp_eq_f (off := 5) (pc' := 1498) (by decide +kernel) 1500 (by decide) rfl h1073) ?_
          refine XE.go (st_iconst (n := 0) (pc' := 1499) (by decide +kernel) (w_eq (by decide) (by decide)) rfl) ?_
          refine XE.cast (hx762 _) ?_
          exact XE.rt rfl (X_zret (by decide +kernel) rfl (by decide))
      refine XE.bite (fun h1079 => ?_) (fun h1080 => ?_)
      · refine XE.go (st_tab_in (dflt := 3308) (lo := 0) (hi := 44) (offs := #[196, 292, 372, 428, 484, 540, 596, 652, 708, 752, 820, 912, 1004, 1108, 1176, 1232, 1312, 1368, 1424, 1480, 1536, 1604, 1672, 1752, 1820, 1900, 1980, 2048, 2128, 2196, 2264, 2332, 2412, 2480, 2548, 2640, 2720, 2800, 2892, 2972, 3040, 3108, 3164, 3232, 3295]) (len := 196) (off := 1480) (pc' := 1520) (by decide +kernel) 19 h1079 (by decide) (by decide) (by decide) (by decide)) ?_
        unfold c_L_19
        refine XE.go (st_aload_n (j := 1) (i := 1) (pc' := 1521) (by decide +kernel) rfl rfl (by decide) rfl) ?_
        refine XE.go (st_aload_n (j := 0) (i := 0) (pc' := 1522) (by decide +kernel) rfl rfl (by decide) rfl) ?_
        refine XE.go (st_iload (j := 4) (pc' := 1524) (by decide +kernel) rfl rfl) ?_
        refine XE.go (st_iconst (n := 1) (pc' := 1525) (by decide +kernel) (w_eq (by decide) (by decide)) rfl) ?_
        refine XE.go (st_iadd (pc' := 1526) (by decide +kernel) rfl) ?_
        refine XE.gdb (fun g1081 => ?_)
        refine XE.go (st_sld (pc' := 1527) (by decide +kernel) rfl g1081.1 g1081.2) ?_
        refine XE.go (st_aload_n (j := 3) (i := 3) (pc' := 1528) (by decide +kernel) rfl rfl (by decide) rfl) ?_
        refine XE.asc ?_
        refine XE.cW1 (pc' := 1531) (st := []) (fun r hr => ct_L_join r hr) (fun r hr => run_S (st := []) (by decide +kernel) co_L_law_228 (ct_L_join r hr) rfl rfl (Nat.le_of_ble_eq_true rfl)) rfl rfl (fun r1082 => ?_)
        refine XE.go (st_istore (j := 5) (pc' := 1533) (by decide +kernel)  rfl (by decide) rfl rfl) ?_
        refine XE.go (st_aload_n (j := 2) (i := 2) (pc' := 1534) (by decide +kernel) rfl rfl (by decide) rfl) ?_
        refine XE.go (st_aload_n (j := 0) (i := 0) (pc' := 1535) (by decide +kernel) rfl rfl (by decide) rfl) ?_
        refine XE.go (st_iload (j := 4) (pc' := 1537) (by decide +kernel) rfl rfl) ?_
        refine XE.go (st_iconst (n := 1) (pc' := 1538) (by decide +kernel) (w_eq (by decide) (by decide)) rfl) ?_
        refine XE.go (st_iadd (pc' := 1539) (by decide +kernel) rfl) ?_
        refine XE.gdb (fun g1083 => ?_)
        refine XE.go (st_sld (pc' := 1540) (by decide +kernel) rfl g1083.1 g1083.2) ?_
        refine XE.asc ?_
        refine XE.cW (pc' := 1543) (st := []) (fun r hr => ct_X11_join h5 r hr) (fun r hr => run_V (st := []) (by decide +kernel) co_L_law_230 (ct_X11_join h5 r hr) rfl h5 rfl rfl (Nat.le_of_ble_eq_true rfl)) rfl rfl (fun r1084 => ?_)
        refine XE.go (st_istore (j := 6) (pc' := 1545) (by decide +kernel)  rfl (by decide) rfl rfl) ?_
        refine XE.go (st_aload_n (j := 2) (i := 2) (pc' := 1546) (by decide +kernel) rfl rfl (by decide) rfl) ?_
        refine XE.asc ?_
        refine XE.cP (pc' := 1549) (st := []) (fun r hr => ct_X11_thrown h5 r hr) (fun r hr => run_V (st := []) (by decide +kernel) co_L_law_165 (ct_X11_thrown h5 r hr) rfl h5 rfl rfl (Nat.le_of_ble_eq_true rfl)) rfl rfl (fun r1085 => ?_)
        refine XE.go (st_iload (j := 5) (pc' := 1551) (by decide +kernel) rfl rfl) ?_
        refine XE.bite (fun h1086 => ?_) (fun h1087 => ?_)
        · refine XE.go (st_icmp_eq_t (off := 5) (pc' := 1556) (by decide +kernel) (by decide) h1086) ?_
          refine XE.go (st_iload (j := 5) (pc' := 1558) (by decide +kernel) rfl rfl) ?_
          refine XE.bite (fun h1088 => ?_) (fun h1089 => ?_)
          · refine XE.go (st_if_ne_f (off := 15) (pc' := 1561) (by decide +kernel) 1573 (by decide) rfl (not_not_intro h1088)) ?_
            refine XE.go (st_aload_n (j := 3) (i := 3) (pc' := 1562) (by decide +kernel) rfl rfl (by decide) rfl) ?_
            refine XE.go (st_iconst (n := 0) (pc' := 1563) (by decide +kernel) (w_eq (by decide) (by decide)) rfl) ?_
            refine XE.gdb (fun g1090 => ?_)
            refine XE.go (st_ald (k := 15) (tp := 2) (pc' := 1564) (by decide +kernel) rfl ak_15 rfl (by decide) rfl (Or.inr (Or.inr (Or.inl ⟨rfl, rfl⟩))) g1090.1 g1090.2.1 g1090.2.2) ?_
            refine XE.go (st_iload (j := 6) (pc' := 1566) (by decide +kernel) rfl rfl) ?_
            refine XE.go (st_i2l (pc' := 1567) (by decide +kernel) rfl) ?_
            refine XE.go (st_lcmp (pc' := 1568) (by decide +kernel) rfl) ?_
            refine XE.bite (fun h1091 => ?_) (fun h1092 => ?_)
            · refine XE.go (st_if_eq_t (off := 5) (pc' := 1573) (by decide +kernel) (by decide) h1091) ?_
              refine XE.go (st_goto (off := 1775) (pc' := 3348) (by decide +kernel) (by decide)) ?_
              refine XE.go (st_iinc (j := 4) (n := 6) (pc' := 3351) (by decide +kernel) rfl rfl (by decide) rfl rfl) ?_
              refine XE.go (st_goto (off := (-3328)) (pc' := 23) (by decide +kernel) (by decide)) ?_
              exact XE.pick [3, 4, 5, 6, 0] rfl (hc760 ((w (s9.1 + 6)), r1084.2))
            · refine XE.go (st_if_eq_f (off := 5) (pc' := 1571) (by decide +kernel) 1573 (by decide) rfl h1092) ?_
              refine XE.go (st_iconst (n := 0) (pc' := 1572) (by decide +kernel) (w_eq (by decide) (by decide)) rfl) ?_
              refine XE.cast (hx762 _) ?_
              exact XE.rt rfl (X_zret (by decide +kernel) rfl (by decide))
          · refine XE.go (st_if_ne_t (off := 15) (pc' := 1573) (by decide +kernel) (by decide) h1089) ?_
            refine XE.go (st_goto (off := 1775) (pc' := 3348) (by decide +kernel) (by decide)) ?_
            refine XE.go (st_iinc (j := 4) (n := 6) (pc' := 3351) (by decide +kernel) rfl rfl (by decide) rfl rfl) ?_
            refine XE.go (st_goto (off := (-3328)) (pc' := 23) (by decide +kernel) (by decide)) ?_
            exact XE.pick [3, 4, 5, 6, 0] rfl (hc760 ((w (s9.1 + 6)), r1084.2))
        · refine XE.go (st_icmp_eq_f (off := 5) (pc' := 1554) (by decide +kernel) 1556 (by decide) rfl h1087) ?_
          refine XE.go (st_iconst (n := 0) (pc' := 1555) (by decide +kernel) (w_eq (by decide) (by decide)) rfl) ?_
          refine XE.cast (hx762 _) ?_
          exact XE.rt rfl (X_zret (by decide +kernel) rfl (by decide))
      refine XE.bite (fun h1093 => ?_) (fun h1094 => ?_)
      · refine XE.go (st_tab_in (dflt := 3308) (lo := 0) (hi := 44) (offs := #[196, 292, 372, 428, 484, 540, 596, 652, 708, 752, 820, 912, 1004, 1108, 1176, 1232, 1312, 1368, 1424, 1480, 1536, 1604, 1672, 1752, 1820, 1900, 1980, 2048, 2128, 2196, 2264, 2332, 2412, 2480, 2548, 2640, 2720, 2800, 2892, 2972, 3040, 3108, 3164, 3232, 3295]) (len := 196) (off := 1536) (pc' := 1576) (by decide +kernel) 20 h1093 (by decide) (by decide) (by decide) (by decide)) ?_
        unfold c_L_20
        refine XE.go (st_aload_n (j := 1) (i := 1) (pc' := 1577) (by decide +kernel) rfl rfl (by decide) rfl) ?_
        refine XE.go (st_aload_n (j := 0) (i := 0) (pc' := 1578) (by decide +kernel) rfl rfl (by decide) rfl) ?_
        refine XE.go (st_iload (j := 4) (pc' := 1580) (by decide +kernel) rfl rfl) ?_
        refine XE.go (st_iconst (n := 1) (pc' := 1581) (by decide +kernel) (w_eq (by decide) (by decide)) rfl) ?_
        refine XE.go (st_iadd (pc' := 1582) (by decide +kernel) rfl) ?_
        refine XE.gdb (fun g1095 => ?_)
        refine XE.go (st_sld (pc' := 1583) (by decide +kernel) rfl g1095.1 g1095.2) ?_
        refine XE.go (st_aload_n (j := 0) (i := 0) (pc' := 1584) (by decide +kernel) rfl rfl (by decide) rfl) ?_
        refine XE.go (st_iload (j := 4) (pc' := 1586) (by decide +kernel) rfl rfl) ?_
        refine XE.go (st_iconst (n := 2) (pc' := 1587) (by decide +kernel) (w_eq (by decide) (by decide)) rfl) ?_
        refine XE.go (st_iadd (pc' := 1588) (by decide +kernel) rfl) ?_
        refine XE.gdb (fun g1096 => ?_)
        refine XE.go (st_sld (pc' := 1589) (by decide +kernel) rfl g1096.1 g1096.2) ?_
        refine XE.go (st_aload_n (j := 3) (i := 3) (pc' := 1590) (by decide +kernel) rfl rfl (by decide) rfl) ?_
        refine XE.asc ?_
        refine XE.cW1 (pc' := 1593) (st := []) (fun r hr => ct_L_leave r hr) (fun r hr => run_S (st := []) (by decide +kernel) co_L_law_231 (ct_L_leave r hr) rfl rfl (Nat.le_of_ble_eq_true rfl)) rfl rfl (fun r1097 => ?_)
        refine XE.go (st_istore (j := 5) (pc' := 1595) (by decide +kernel)  rfl (by decide) rfl rfl) ?_
        refine XE.go (st_aload_n (j := 2) (i := 2) (pc' := 1596) (by decide +kernel) rfl rfl (by decide) rfl) ?_
        refine XE.go (st_aload_n (j := 0) (i := 0) (pc' := 1597) (by decide +kernel) rfl rfl (by decide) rfl) ?_
        refine XE.go (st_iload (j := 4) (pc' := 1599) (by decide +kernel) rfl rfl) ?_
        refine XE.go (st_iconst (n := 1) (pc' := 1600) (by decide +kernel) (w_eq (by decide) (by decide)) rfl) ?_
        refine XE.go (st_iadd (pc' := 1601) (by decide +kernel) rfl) ?_
        refine XE.gdb (fun g1098 => ?_)
        refine XE.go (st_sld (pc' := 1602) (by decide +kernel) rfl g1098.1 g1098.2) ?_
        refine XE.go (st_aload_n (j := 0) (i := 0) (pc' := 1603) (by decide +kernel) rfl rfl (by decide) rfl) ?_
        refine XE.go (st_iload (j := 4) (pc' := 1605) (by decide +kernel) rfl rfl) ?_
        refine XE.go (st_iconst (n := 2) (pc' := 1606) (by decide +kernel) (w_eq (by decide) (by decide)) rfl) ?_
        refine XE.go (st_iadd (pc' := 1607) (by decide +kernel) rfl) ?_
        refine XE.gdb (fun g1099 => ?_)
        refine XE.go (st_sld (pc' := 1608) (by decide +kernel) rfl g1099.1 g1099.2) ?_
        refine XE.asc ?_
        refine XE.cW (pc' := 1611) (st := []) (fun r hr => ct_X11_leave h5 r hr) (fun r hr => run_V (st := []) (by decide +kernel) co_L_law_233 (ct_X11_leave h5 r hr) rfl h5 rfl rfl (Nat.le_of_ble_eq_true rfl)) rfl rfl (fun r1100 => ?_)
        refine XE.go (st_istore (j := 6) (pc' := 1613) (by decide +kernel)  rfl (by decide) rfl rfl) ?_
        refine XE.go (st_aload_n (j := 2) (i := 2) (pc' := 1614) (by decide +kernel) rfl rfl (by decide) rfl) ?_
        refine XE.asc ?_
        refine XE.cP (pc' := 1617) (st := []) (fun r hr => ct_X11_thrown h5 r hr) (fun r hr => run_V (st := []) (by decide +kernel) co_L_law_165 (ct_X11_thrown h5 r hr) rfl h5 rfl rfl (Nat.le_of_ble_eq_true rfl)) rfl rfl (fun r1101 => ?_)
        refine XE.go (st_iload (j := 5) (pc' := 1619) (by decide +kernel) rfl rfl) ?_
        refine XE.bite (fun h1102 => ?_) (fun h1103 => ?_)
        · refine XE.go (st_icmp_eq_t (off := 5) (pc' := 1624) (by decide +kernel) (by decide) h1102) ?_
          refine XE.go (st_iload (j := 5) (pc' := 1626) (by decide +kernel) rfl rfl) ?_
          refine XE.bite (fun h1104 => ?_) (fun h1105 => ?_)
          · refine XE.go (st_if_ne_f (off := 15) (pc' := 1629) (by decide +kernel) 1641 (by decide) rfl (not_not_intro h1104)) ?_
            refine XE.go (st_aload_n (j := 3) (i := 3) (pc' := 1630) (by decide +kernel) rfl rfl (by decide) rfl) ?_
            refine XE.go (st_iconst (n := 0) (pc' := 1631) (by decide +kernel) (w_eq (by decide) (by decide)) rfl) ?_
            refine XE.gdb (fun g1106 => ?_)
            refine XE.go (st_ald (k := 15) (tp := 2) (pc' := 1632) (by decide +kernel) rfl ak_15 rfl (by decide) rfl (Or.inr (Or.inr (Or.inl ⟨rfl, rfl⟩))) g1106.1 g1106.2.1 g1106.2.2) ?_
            refine XE.go (st_iload (j := 6) (pc' := 1634) (by decide +kernel) rfl rfl) ?_
            refine XE.go (st_i2l (pc' := 1635) (by decide +kernel) rfl) ?_
            refine XE.go (st_lcmp (pc' := 1636) (by decide +kernel) rfl) ?_
            refine XE.bite (fun h1107 => ?_) (fun h1108 => ?_)
            · refine XE.go (st_if_eq_t (off := 5) (pc' := 1641) (by decide +kernel) (by decide) h1107) ?_
              refine XE.go (st_goto (off := 1707) (pc' := 3348) (by decide +kernel) (by decide)) ?_
              refine XE.go (st_iinc (j := 4) (n := 6) (pc' := 3351) (by decide +kernel) rfl rfl (by decide) rfl rfl) ?_
              refine XE.go (st_goto (off := (-3328)) (pc' := 23) (by decide +kernel) (by decide)) ?_
              exact XE.pick [3, 4, 5, 6, 0] rfl (hc760 ((w (s9.1 + 6)), r1100.2))
            · refine XE.go (st_if_eq_f (off := 5) (pc' := 1639) (by decide +kernel) 1641 (by decide) rfl h1108) ?_
              refine XE.go (st_iconst (n := 0) (pc' := 1640) (by decide +kernel) (w_eq (by decide) (by decide)) rfl) ?_
              refine XE.cast (hx762 _) ?_
              exact XE.rt rfl (X_zret (by decide +kernel) rfl (by decide))
          · refine XE.go (st_if_ne_t (off := 15) (pc' := 1641) (by decide +kernel) (by decide) h1105) ?_
            refine XE.go (st_goto (off := 1707) (pc' := 3348) (by decide +kernel) (by decide)) ?_
            refine XE.go (st_iinc (j := 4) (n := 6) (pc' := 3351) (by decide +kernel) rfl rfl (by decide) rfl rfl) ?_
            refine XE.go (st_goto (off := (-3328)) (pc' := 23) (by decide +kernel) (by decide)) ?_
            exact XE.pick [3, 4, 5, 6, 0] rfl (hc760 ((w (s9.1 + 6)), r1100.2))
        · refine XE.go (st_icmp_eq_f (off := 5) (pc' := 1622) (by decide +kernel) 1624 (by decide) rfl h1103) ?_
          refine XE.go (st_iconst (n := 0) (pc' := 1623) (by decide +kernel) (w_eq (by decide) (by decide)) rfl) ?_
          refine XE.cast (hx762 _) ?_
          exact XE.rt rfl (X_zret (by decide +kernel) rfl (by decide))
      refine XE.bite (fun h1109 => ?_) (fun h1110 => ?_)
      · refine XE.go (st_tab_in (dflt := 3308) (lo := 0) (hi := 44) (offs := #[196, 292, 372, 428, 484, 540, 596, 652, 708, 752, 820, 912, 1004, 1108, 1176, 1232, 1312, 1368, 1424, 1480, 1536, 1604, 1672, 1752, 1820, 1900, 1980, 2048, 2128, 2196, 2264, 2332, 2412, 2480, 2548, 2640, 2720, 2800, 2892, 2972, 3040, 3108, 3164, 3232, 3295]) (len := 196) (off := 1604) (pc' := 1644) (by decide +kernel) 21 h1109 (by decide) (by decide) (by decide) (by decide)) ?_
        unfold c_L_21
        refine XE.go (st_aload_n (j := 1) (i := 1) (pc' := 1645) (by decide +kernel) rfl rfl (by decide) rfl) ?_
        refine XE.go (st_aload_n (j := 0) (i := 0) (pc' := 1646) (by decide +kernel) rfl rfl (by decide) rfl) ?_
        refine XE.go (st_iload (j := 4) (pc' := 1648) (by decide +kernel) rfl rfl) ?_
        refine XE.go (st_iconst (n := 1) (pc' := 1649) (by decide +kernel) (w_eq (by decide) (by decide)) rfl) ?_
        refine XE.go (st_iadd (pc' := 1650) (by decide +kernel) rfl) ?_
        refine XE.gdb (fun g1111 => ?_)
        refine XE.go (st_sld (pc' := 1651) (by decide +kernel) rfl g1111.1 g1111.2) ?_
        refine XE.go (st_aload_n (j := 0) (i := 0) (pc' := 1652) (by decide +kernel) rfl rfl (by decide) rfl) ?_
        refine XE.go (st_iload (j := 4) (pc' := 1654) (by decide +kernel) rfl rfl) ?_
        refine XE.go (st_iconst (n := 2) (pc' := 1655) (by decide +kernel) (w_eq (by decide) (by decide)) rfl) ?_
        refine XE.go (st_iadd (pc' := 1656) (by decide +kernel) rfl) ?_
        refine XE.gdb (fun g1112 => ?_)
        refine XE.go (st_sld (pc' := 1657) (by decide +kernel) rfl g1112.1 g1112.2) ?_
        refine XE.go (st_aload_n (j := 3) (i := 3) (pc' := 1658) (by decide +kernel) rfl rfl (by decide) rfl) ?_
        refine XE.asc ?_
        refine XE.cW1 (pc' := 1661) (st := []) (fun r hr => ct_L_beat r hr) (fun r hr => run_S (st := []) (by decide +kernel) co_L_law_234 (ct_L_beat r hr) rfl rfl (Nat.le_of_ble_eq_true rfl)) rfl rfl (fun r1113 => ?_)
        refine XE.go (st_istore (j := 5) (pc' := 1663) (by decide +kernel)  rfl (by decide) rfl rfl) ?_
        refine XE.go (st_aload_n (j := 2) (i := 2) (pc' := 1664) (by decide +kernel) rfl rfl (by decide) rfl) ?_
        refine XE.go (st_aload_n (j := 0) (i := 0) (pc' := 1665) (by decide +kernel) rfl rfl (by decide) rfl) ?_
        refine XE.go (st_iload (j := 4) (pc' := 1667) (by decide +kernel) rfl rfl) ?_
        refine XE.go (st_iconst (n := 1) (pc' := 1668) (by decide +kernel) (w_eq (by decide) (by decide)) rfl) ?_
        refine XE.go (st_iadd (pc' := 1669) (by decide +kernel) rfl) ?_
        refine XE.gdb (fun g1114 => ?_)
        refine XE.go (st_sld (pc' := 1670) (by decide +kernel) rfl g1114.1 g1114.2) ?_
        refine XE.go (st_aload_n (j := 0) (i := 0) (pc' := 1671) (by decide +kernel) rfl rfl (by decide) rfl) ?_
        refine XE.go (st_iload (j := 4) (pc' := 1673) (by decide +kernel) rfl rfl) ?_
        refine XE.go (st_iconst (n := 2) (pc' := 1674) (by decide +kernel) (w_eq (by decide) (by decide)) rfl) ?_
        refine XE.go (st_iadd (pc' := 1675) (by decide +kernel) rfl) ?_
        refine XE.gdb (fun g1115 => ?_)
        refine XE.go (st_sld (pc' := 1676) (by decide +kernel) rfl g1115.1 g1115.2) ?_
        refine XE.asc ?_
        refine XE.cW (pc' := 1679) (st := []) (fun r hr => ct_X11_beat h5 r hr) (fun r hr => run_V (st := []) (by decide +kernel) co_L_law_236 (ct_X11_beat h5 r hr) rfl h5 rfl rfl (Nat.le_of_ble_eq_true rfl)) rfl rfl (fun r1116 => ?_)
        refine XE.go (st_istore (j := 6) (pc' := 1681) (by decide +kernel)  rfl (by decide) rfl rfl) ?_
        refine XE.go (st_aload_n (j := 2) (i := 2) (pc' := 1682) (by decide +kernel) rfl rfl (by decide) rfl) ?_
        refine XE.asc ?_
        refine XE.cP (pc' := 1685) (st := []) (fun r hr => ct_X11_thrown h5 r hr) (fun r hr => run_V (st := []) (by decide +kernel) co_L_law_165 (ct_X11_thrown h5 r hr) rfl h5 rfl rfl (Nat.le_of_ble_eq_true rfl)) rfl rfl (fun r1117 => ?_)
        refine XE.go (st_iload (j := 5) (pc' := 1687) (by decide +kernel) rfl rfl) ?_
        refine XE.bite (fun h1118 => ?_) (fun h1119 => ?_)
        · refine XE.go (st_icmp_eq_t (off := 5) (pc' := 1692) (by decide +kernel) (by decide) h1118) ?_
          refine XE.go (st_iload (j := 5) (pc' := 1694) (by decide +kernel) rfl rfl) ?_
          refine XE.bite (fun h1120 => ?_) (fun h1121 => ?_)
          · refine XE.go (st_if_ne_f (off := 15) (pc' := 1697) (by decide +kernel) 1709 (by decide) rfl (not_not_intro h1120)) ?_
            refine XE.go (st_aload_n (j := 3) (i := 3) (pc' := 1698) (by decide +kernel) rfl rfl (by decide) rfl) ?_
            refine XE.go (st_iconst (n := 0) (pc' := 1699) (by decide +kernel) (w_eq (by decide) (by decide)) rfl) ?_
            refine XE.gdb (fun g1122 => ?_)
            refine XE.go (st_ald (k := 15) (tp := 2) (pc' := 1700) (by decide +kernel) rfl ak_15 rfl (by decide) rfl (Or.inr (Or.inr (Or.inl ⟨rfl, rfl⟩))) g1122.1 g1122.2.1 g1122.2.2) ?_
            refine XE.go (st_iload (j := 6) (pc' := 1702) (by decide +kernel) rfl rfl) ?_
            refine XE.go (st_i2l (pc' := 1703) (by decide +kernel) rfl) ?_
            refine XE.go (st_lcmp (pc' := 1704) (by decide +kernel) rfl) ?_
            refine XE.bite (fun h1123 => ?_) (fun h1124 => ?_)
            · refine XE.go (st_if_eq_t (off := 5) (pc' := 1709) (by decide +kernel) (by decide) h1123) ?_
              refine XE.go (st_goto (off := 1639) (pc' := 3348) (by decide +kernel) (by decide)) ?_
              refine XE.go (st_iinc (j := 4) (n := 6) (pc' := 3351) (by decide +kernel) rfl rfl (by decide) rfl rfl) ?_
              refine XE.go (st_goto (off := (-3328)) (pc' := 23) (by decide +kernel) (by decide)) ?_
              exact XE.pick [3, 4, 5, 6, 0] rfl (hc760 ((w (s9.1 + 6)), r1116.2))
            · refine XE.go (st_if_eq_f (off := 5) (pc' := 1707) (by decide +kernel) 1709 (by decide) rfl h1124) ?_
              refine XE.go (st_iconst (n := 0) (pc' := 1708) (by decide +kernel) (w_eq (by decide) (by decide)) rfl) ?_
              refine XE.cast (hx762 _) ?_
              exact XE.rt rfl (X_zret (by decide +kernel) rfl (by decide))
          · refine XE.go (st_if_ne_t (off := 15) (pc' := 1709) (by decide +kernel) (by decide) h1121) ?_
            refine XE.go (st_goto (off := 1639) (pc' := 3348) (by decide +kernel) (by decide)) ?_
            refine XE.go (st_iinc (j := 4) (n := 6) (pc' := 3351) (by decide +kernel) rfl rfl (by decide) rfl rfl) ?_
            refine XE.go (st_goto (off := (-3328)) (pc' := 23) (by decide +kernel) (by decide)) ?_
            exact XE.pick [3, 4, 5, 6, 0] rfl (hc760 ((w (s9.1 + 6)), r1116.2))
        · refine XE.go (st_icmp_eq_f (off := 5) (pc' := 1690) (by decide +kernel) 1692 (by decide) rfl h1119) ?_
          refine XE.go (st_iconst (n := 0) (pc' := 1691) (by decide +kernel) (w_eq (by decide) (by decide)) rfl) ?_
          refine XE.cast (hx762 _) ?_
          exact XE.rt rfl (X_zret (by decide +kernel) rfl (by decide))
      refine XE.bite (fun h1125 => ?_) (fun h1126 => ?_)
      · refine XE.go (st_tab_in (dflt := 3308) (lo := 0) (hi := 44) (offs := #[196, 292, 372, 428, 484, 540, 596, 652, 708, 752, 820, 912, 1004, 1108, 1176, 1232, 1312, 1368, 1424, 1480, 1536, 1604, 1672, 1752, 1820, 1900, 1980, 2048, 2128, 2196, 2264, 2332, 2412, 2480, 2548, 2640, 2720, 2800, 2892, 2972, 3040, 3108, 3164, 3232, 3295]) (len := 196) (off := 1672) (pc' := 1712) (by decide +kernel) 22 h1125 (by decide) (by decide) (by decide) (by decide)) ?_
        unfold c_L_22
        refine XE.go (st_aload_n (j := 1) (i := 1) (pc' := 1713) (by decide +kernel) rfl rfl (by decide) rfl) ?_
        refine XE.go (st_aload_n (j := 0) (i := 0) (pc' := 1714) (by decide +kernel) rfl rfl (by decide) rfl) ?_
        refine XE.go (st_iload (j := 4) (pc' := 1716) (by decide +kernel) rfl rfl) ?_
        refine XE.go (st_iconst (n := 1) (pc' := 1717) (by decide +kernel) (w_eq (by decide) (by decide)) rfl) ?_
        refine XE.go (st_iadd (pc' := 1718) (by decide +kernel) rfl) ?_
        refine XE.gdb (fun g1127 => ?_)
        refine XE.go (st_sld (pc' := 1719) (by decide +kernel) rfl g1127.1 g1127.2) ?_
        refine XE.go (st_aload_n (j := 0) (i := 0) (pc' := 1720) (by decide +kernel) rfl rfl (by decide) rfl) ?_
        refine XE.go (st_iload (j := 4) (pc' := 1722) (by decide +kernel) rfl rfl) ?_
        refine XE.go (st_iconst (n := 2) (pc' := 1723) (by decide +kernel) (w_eq (by decide) (by decide)) rfl) ?_
        refine XE.go (st_iadd (pc' := 1724) (by decide +kernel) rfl) ?_
        refine XE.gdb (fun g1128 => ?_)
        refine XE.go (st_sld (pc' := 1725) (by decide +kernel) rfl g1128.1 g1128.2) ?_
        refine XE.go (st_aload_n (j := 0) (i := 0) (pc' := 1726) (by decide +kernel) rfl rfl (by decide) rfl) ?_
        refine XE.go (st_iload (j := 4) (pc' := 1728) (by decide +kernel) rfl rfl) ?_
        refine XE.go (st_iconst (n := 3) (pc' := 1729) (by decide +kernel) (w_eq (by decide) (by decide)) rfl) ?_
        refine XE.go (st_iadd (pc' := 1730) (by decide +kernel) rfl) ?_
        refine XE.gdb (fun g1129 => ?_)
        refine XE.go (st_sld (pc' := 1731) (by decide +kernel) rfl g1129.1 g1129.2) ?_
        refine XE.go (st_aload_n (j := 3) (i := 3) (pc' := 1732) (by decide +kernel) rfl rfl (by decide) rfl) ?_
        refine XE.asc ?_
        refine XE.cW1 (pc' := 1735) (st := []) (fun r hr => ct_L_credits r hr) (fun r hr => run_S (st := []) (by decide +kernel) co_L_law_237 (ct_L_credits r hr) rfl rfl (Nat.le_of_ble_eq_true rfl)) rfl rfl (fun r1130 => ?_)
        refine XE.go (st_istore (j := 5) (pc' := 1737) (by decide +kernel)  rfl (by decide) rfl rfl) ?_
        refine XE.go (st_aload_n (j := 2) (i := 2) (pc' := 1738) (by decide +kernel) rfl rfl (by decide) rfl) ?_
        refine XE.go (st_aload_n (j := 0) (i := 0) (pc' := 1739) (by decide +kernel) rfl rfl (by decide) rfl) ?_
        refine XE.go (st_iload (j := 4) (pc' := 1741) (by decide +kernel) rfl rfl) ?_
        refine XE.go (st_iconst (n := 1) (pc' := 1742) (by decide +kernel) (w_eq (by decide) (by decide)) rfl) ?_
        refine XE.go (st_iadd (pc' := 1743) (by decide +kernel) rfl) ?_
        refine XE.gdb (fun g1131 => ?_)
        refine XE.go (st_sld (pc' := 1744) (by decide +kernel) rfl g1131.1 g1131.2) ?_
        refine XE.go (st_aload_n (j := 0) (i := 0) (pc' := 1745) (by decide +kernel) rfl rfl (by decide) rfl) ?_
        refine XE.go (st_iload (j := 4) (pc' := 1747) (by decide +kernel) rfl rfl) ?_
        refine XE.go (st_iconst (n := 2) (pc' := 1748) (by decide +kernel) (w_eq (by decide) (by decide)) rfl) ?_
        refine XE.go (st_iadd (pc' := 1749) (by decide +kernel) rfl) ?_
        refine XE.gdb (fun g1132 => ?_)
        refine XE.go (st_sld (pc' := 1750) (by decide +kernel) rfl g1132.1 g1132.2) ?_
        refine XE.go (st_aload_n (j := 0) (i := 0) (pc' := 1751) (by decide +kernel) rfl rfl (by decide) rfl) ?_
        refine XE.go (st_iload (j := 4) (pc' := 1753) (by decide +kernel) rfl rfl) ?_
        refine XE.go (st_iconst (n := 3) (pc' := 1754) (by decide +kernel) (w_eq (by decide) (by decide)) rfl) ?_
        refine XE.go (st_iadd (pc' := 1755) (by decide +kernel) rfl) ?_
        refine XE.gdb (fun g1133 => ?_)
        refine XE.go (st_sld (pc' := 1756) (by decide +kernel) rfl g1133.1 g1133.2) ?_
        refine XE.asc ?_
        refine XE.cW (pc' := 1759) (st := []) (fun r hr => ct_X11_credits h5 r hr) (fun r hr => run_V (st := []) (by decide +kernel) co_L_law_239 (ct_X11_credits h5 r hr) rfl h5 rfl rfl (Nat.le_of_ble_eq_true rfl)) rfl rfl (fun r1134 => ?_)
        refine XE.go (st_istore (j := 6) (pc' := 1761) (by decide +kernel)  rfl (by decide) rfl rfl) ?_
        refine XE.go (st_aload_n (j := 2) (i := 2) (pc' := 1762) (by decide +kernel) rfl rfl (by decide) rfl) ?_
        refine XE.asc ?_
        refine XE.cP (pc' := 1765) (st := []) (fun r hr => ct_X11_thrown h5 r hr) (fun r hr => run_V (st := []) (by decide +kernel) co_L_law_165 (ct_X11_thrown h5 r hr) rfl h5 rfl rfl (Nat.le_of_ble_eq_true rfl)) rfl rfl (fun r1135 => ?_)
        refine XE.go (st_iload (j := 5) (pc' := 1767) (by decide +kernel) rfl rfl) ?_
        refine XE.bite (fun h1136 => ?_) (fun h1137 => ?_)
        · refine XE.go (st_icmp_eq_t (off := 5) (pc' := 1772) (by decide +kernel) (by decide) h1136) ?_
          refine XE.go (st_iload (j := 5) (pc' := 1774) (by decide +kernel) rfl rfl) ?_
          refine XE.bite (fun h1138 => ?_) (fun h1139 => ?_)
          · refine XE.go (st_if_ne_f (off := 15) (pc' := 1777) (by decide +kernel) 1789 (by decide) rfl (not_not_intro h1138)) ?_
            refine XE.go (st_aload_n (j := 3) (i := 3) (pc' := 1778) (by decide +kernel) rfl rfl (by decide) rfl) ?_
            refine XE.go (st_iconst (n := 0) (pc' := 1779) (by decide +kernel) (w_eq (by decide) (by decide)) rfl) ?_
            refine XE.gdb (fun g1140 => ?_)
            refine XE.go (st_ald (k := 15) (tp := 2) (pc' := 1780) (by decide +kernel) rfl ak_15 rfl (by decide) rfl (Or.inr (Or.inr (Or.inl ⟨rfl, rfl⟩))) g1140.1 g1140.2.1 g1140.2.2) ?_
            refine XE.go (st_iload (j := 6) (pc' := 1782) (by decide +kernel) rfl rfl) ?_
            refine XE.go (st_i2l (pc' := 1783) (by decide +kernel) rfl) ?_
            refine XE.go (st_lcmp (pc' := 1784) (by decide +kernel) rfl) ?_
            refine XE.bite (fun h1141 => ?_) (fun h1142 => ?_)
            · refine XE.go (st_if_eq_t (off := 5) (pc' := 1789) (by decide +kernel) (by decide) h1141) ?_
              refine XE.go (st_goto (off := 1559) (pc' := 3348) (by decide +kernel) (by decide)) ?_
              refine XE.go (st_iinc (j := 4) (n := 6) (pc' := 3351) (by decide +kernel) rfl rfl (by decide) rfl rfl) ?_
              refine XE.go (st_goto (off := (-3328)) (pc' := 23) (by decide +kernel) (by decide)) ?_
              exact XE.pick [3, 4, 5, 6, 0] rfl (hc760 ((w (s9.1 + 6)), r1134.2))
            · refine XE.go (st_if_eq_f (off := 5) (pc' := 1787) (by decide +kernel) 1789 (by decide) rfl h1142) ?_
              refine XE.go (st_iconst (n := 0) (pc' := 1788) (by decide +kernel) (w_eq (by decide) (by decide)) rfl) ?_
              refine XE.cast (hx762 _) ?_
              exact XE.rt rfl (X_zret (by decide +kernel) rfl (by decide))
          · refine XE.go (st_if_ne_t (off := 15) (pc' := 1789) (by decide +kernel) (by decide) h1139) ?_
            refine XE.go (st_goto (off := 1559) (pc' := 3348) (by decide +kernel) (by decide)) ?_
            refine XE.go (st_iinc (j := 4) (n := 6) (pc' := 3351) (by decide +kernel) rfl rfl (by decide) rfl rfl) ?_
            refine XE.go (st_goto (off := (-3328)) (pc' := 23) (by decide +kernel) (by decide)) ?_
            exact XE.pick [3, 4, 5, 6, 0] rfl (hc760 ((w (s9.1 + 6)), r1134.2))
        · refine XE.go (st_icmp_eq_f (off := 5) (pc' := 1770) (by decide +kernel) 1772 (by decide) rfl h1137) ?_
          refine XE.go (st_iconst (n := 0) (pc' := 1771) (by decide +kernel) (w_eq (by decide) (by decide)) rfl) ?_
          refine XE.cast (hx762 _) ?_
          exact XE.rt rfl (X_zret (by decide +kernel) rfl (by decide))
      refine XE.bite (fun h1143 => ?_) (fun h1144 => ?_)
      · refine XE.go (st_tab_in (dflt := 3308) (lo := 0) (hi := 44) (offs := #[196, 292, 372, 428, 484, 540, 596, 652, 708, 752, 820, 912, 1004, 1108, 1176, 1232, 1312, 1368, 1424, 1480, 1536, 1604, 1672, 1752, 1820, 1900, 1980, 2048, 2128, 2196, 2264, 2332, 2412, 2480, 2548, 2640, 2720, 2800, 2892, 2972, 3040, 3108, 3164, 3232, 3295]) (len := 196) (off := 1752) (pc' := 1792) (by decide +kernel) 23 h1143 (by decide) (by decide) (by decide) (by decide)) ?_
        unfold c_L_23
        refine XE.go (st_aload_n (j := 1) (i := 1) (pc' := 1793) (by decide +kernel) rfl rfl (by decide) rfl) ?_
        refine XE.go (st_aload_n (j := 0) (i := 0) (pc' := 1794) (by decide +kernel) rfl rfl (by decide) rfl) ?_
        refine XE.go (st_iload (j := 4) (pc' := 1796) (by decide +kernel) rfl rfl) ?_
        refine XE.go (st_iconst (n := 1) (pc' := 1797) (by decide +kernel) (w_eq (by decide) (by decide)) rfl) ?_
        refine XE.go (st_iadd (pc' := 1798) (by decide +kernel) rfl) ?_
        refine XE.gdb (fun g1145 => ?_)
        refine XE.go (st_sld (pc' := 1799) (by decide +kernel) rfl g1145.1 g1145.2) ?_
        refine XE.go (st_aload_n (j := 0) (i := 0) (pc' := 1800) (by decide +kernel) rfl rfl (by decide) rfl) ?_
        refine XE.go (st_iload (j := 4) (pc' := 1802) (by decide +kernel) rfl rfl) ?_
        refine XE.go (st_iconst (n := 2) (pc' := 1803) (by decide +kernel) (w_eq (by decide) (by decide)) rfl) ?_
        refine XE.go (st_iadd (pc' := 1804) (by decide +kernel) rfl) ?_
        refine XE.gdb (fun g1146 => ?_)
        refine XE.go (st_sld (pc' := 1805) (by decide +kernel) rfl g1146.1 g1146.2) ?_
        refine XE.go (st_aload_n (j := 3) (i := 3) (pc' := 1806) (by decide +kernel) rfl rfl (by decide) rfl) ?_
        refine XE.asc ?_
        refine XE.cW1 (pc' := 1809) (st := []) (fun r hr => ct_L_read r hr) (fun r hr => run_S (st := []) (by decide +kernel) co_L_law_240 (ct_L_read r hr) rfl rfl (Nat.le_of_ble_eq_true rfl)) rfl rfl (fun r1147 => ?_)
        refine XE.go (st_istore (j := 5) (pc' := 1811) (by decide +kernel)  rfl (by decide) rfl rfl) ?_
        refine XE.go (st_aload_n (j := 2) (i := 2) (pc' := 1812) (by decide +kernel) rfl rfl (by decide) rfl) ?_
        refine XE.go (st_aload_n (j := 0) (i := 0) (pc' := 1813) (by decide +kernel) rfl rfl (by decide) rfl) ?_
        refine XE.go (st_iload (j := 4) (pc' := 1815) (by decide +kernel) rfl rfl) ?_
        refine XE.go (st_iconst (n := 1) (pc' := 1816) (by decide +kernel) (w_eq (by decide) (by decide)) rfl) ?_
        refine XE.go (st_iadd (pc' := 1817) (by decide +kernel) rfl) ?_
        refine XE.gdb (fun g1148 => ?_)
        refine XE.go (st_sld (pc' := 1818) (by decide +kernel) rfl g1148.1 g1148.2) ?_
        refine XE.go (st_aload_n (j := 0) (i := 0) (pc' := 1819) (by decide +kernel) rfl rfl (by decide) rfl) ?_
        refine XE.go (st_iload (j := 4) (pc' := 1821) (by decide +kernel) rfl rfl) ?_
        refine XE.go (st_iconst (n := 2) (pc' := 1822) (by decide +kernel) (w_eq (by decide) (by decide)) rfl) ?_
        refine XE.go (st_iadd (pc' := 1823) (by decide +kernel) rfl) ?_
        refine XE.gdb (fun g1149 => ?_)
        refine XE.go (st_sld (pc' := 1824) (by decide +kernel) rfl g1149.1 g1149.2) ?_
        refine XE.asc ?_
        refine XE.cW (pc' := 1827) (st := []) (fun r hr => ct_X11_read h5 r hr) (fun r hr => run_V (st := []) (by decide +kernel) co_L_law_242 (ct_X11_read h5 r hr) rfl h5 rfl rfl (Nat.le_of_ble_eq_true rfl)) rfl rfl (fun r1150 => ?_)
        refine XE.go (st_istore (j := 6) (pc' := 1829) (by decide +kernel)  rfl (by decide) rfl rfl) ?_
        refine XE.go (st_aload_n (j := 2) (i := 2) (pc' := 1830) (by decide +kernel) rfl rfl (by decide) rfl) ?_
        refine XE.asc ?_
        refine XE.cP (pc' := 1833) (st := []) (fun r hr => ct_X11_thrown h5 r hr) (fun r hr => run_V (st := []) (by decide +kernel) co_L_law_165 (ct_X11_thrown h5 r hr) rfl h5 rfl rfl (Nat.le_of_ble_eq_true rfl)) rfl rfl (fun r1151 => ?_)
        refine XE.go (st_iload (j := 5) (pc' := 1835) (by decide +kernel) rfl rfl) ?_
        refine XE.bite (fun h1152 => ?_) (fun h1153 => ?_)
        · refine XE.go (st_icmp_eq_t (off := 5) (pc' := 1840) (by decide +kernel) (by decide) h1152) ?_
          refine XE.go (st_iload (j := 5) (pc' := 1842) (by decide +kernel) rfl rfl) ?_
          refine XE.bite (fun h1154 => ?_) (fun h1155 => ?_)
          · refine XE.go (st_if_ne_f (off := 15) (pc' := 1845) (by decide +kernel) 1857 (by decide) rfl (not_not_intro h1154)) ?_
            refine XE.go (st_aload_n (j := 3) (i := 3) (pc' := 1846) (by decide +kernel) rfl rfl (by decide) rfl) ?_
            refine XE.go (st_iconst (n := 0) (pc' := 1847) (by decide +kernel) (w_eq (by decide) (by decide)) rfl) ?_
            refine XE.gdb (fun g1156 => ?_)
            refine XE.go (st_ald (k := 15) (tp := 2) (pc' := 1848) (by decide +kernel) rfl ak_15 rfl (by decide) rfl (Or.inr (Or.inr (Or.inl ⟨rfl, rfl⟩))) g1156.1 g1156.2.1 g1156.2.2) ?_
            refine XE.go (st_iload (j := 6) (pc' := 1850) (by decide +kernel) rfl rfl) ?_
            refine XE.go (st_i2l (pc' := 1851) (by decide +kernel) rfl) ?_
            refine XE.go (st_lcmp (pc' := 1852) (by decide +kernel) rfl) ?_
            refine XE.bite (fun h1157 => ?_) (fun h1158 => ?_)
            · refine XE.go (st_if_eq_t (off := 5) (pc' := 1857) (by decide +kernel) (by decide) h1157) ?_
              refine XE.go (st_goto (off := 1491) (pc' := 3348) (by decide +kernel) (by decide)) ?_
              refine XE.go (st_iinc (j := 4) (n := 6) (pc' := 3351) (by decide +kernel) rfl rfl (by decide) rfl rfl) ?_
              refine XE.go (st_goto (off := (-3328)) (pc' := 23) (by decide +kernel) (by decide)) ?_
              exact XE.pick [3, 4, 5, 6, 0] rfl (hc760 ((w (s9.1 + 6)), r1150.2))
            · refine XE.go (st_if_eq_f (off := 5) (pc' := 1855) (by decide +kernel) 1857 (by decide) rfl h1158) ?_
              refine XE.go (st_iconst (n := 0) (pc' := 1856) (by decide +kernel) (w_eq (by decide) (by decide)) rfl) ?_
              refine XE.cast (hx762 _) ?_
              exact XE.rt rfl (X_zret (by decide +kernel) rfl (by decide))
          · refine XE.go (st_if_ne_t (off := 15) (pc' := 1857) (by decide +kernel) (by decide) h1155) ?_
            refine XE.go (st_goto (off := 1491) (pc' := 3348) (by decide +kernel) (by decide)) ?_
            refine XE.go (st_iinc (j := 4) (n := 6) (pc' := 3351) (by decide +kernel) rfl rfl (by decide) rfl rfl) ?_
            refine XE.go (st_goto (off := (-3328)) (pc' := 23) (by decide +kernel) (by decide)) ?_
            exact XE.pick [3, 4, 5, 6, 0] rfl (hc760 ((w (s9.1 + 6)), r1150.2))
        · refine XE.go (st_icmp_eq_f (off := 5) (pc' := 1838) (by decide +kernel) 1840 (by decide) rfl h1153) ?_
          refine XE.go (st_iconst (n := 0) (pc' := 1839) (by decide +kernel) (w_eq (by decide) (by decide)) rfl) ?_
          refine XE.cast (hx762 _) ?_
          exact XE.rt rfl (X_zret (by decide +kernel) rfl (by decide))
      refine XE.bite (fun h1159 => ?_) (fun h1160 => ?_)
      · refine XE.go (st_tab_in (dflt := 3308) (lo := 0) (hi := 44) (offs := #[196, 292, 372, 428, 484, 540, 596, 652, 708, 752, 820, 912, 1004, 1108, 1176, 1232, 1312, 1368, 1424, 1480, 1536, 1604, 1672, 1752, 1820, 1900, 1980, 2048, 2128, 2196, 2264, 2332, 2412, 2480, 2548, 2640, 2720, 2800, 2892, 2972, 3040, 3108, 3164, 3232, 3295]) (len := 196) (off := 1820) (pc' := 1860) (by decide +kernel) 24 h1159 (by decide) (by decide) (by decide) (by decide)) ?_
        unfold c_L_24
        refine XE.go (st_aload_n (j := 1) (i := 1) (pc' := 1861) (by decide +kernel) rfl rfl (by decide) rfl) ?_
        refine XE.go (st_aload_n (j := 0) (i := 0) (pc' := 1862) (by decide +kernel) rfl rfl (by decide) rfl) ?_
        refine XE.go (st_iload (j := 4) (pc' := 1864) (by decide +kernel) rfl rfl) ?_
        refine XE.go (st_iconst (n := 1) (pc' := 1865) (by decide +kernel) (w_eq (by decide) (by decide)) rfl) ?_
        refine XE.go (st_iadd (pc' := 1866) (by decide +kernel) rfl) ?_
        refine XE.gdb (fun g1161 => ?_)
        refine XE.go (st_sld (pc' := 1867) (by decide +kernel) rfl g1161.1 g1161.2) ?_
        refine XE.go (st_aload_n (j := 0) (i := 0) (pc' := 1868) (by decide +kernel) rfl rfl (by decide) rfl) ?_
        refine XE.go (st_iload (j := 4) (pc' := 1870) (by decide +kernel) rfl rfl) ?_
        refine XE.go (st_iconst (n := 2) (pc' := 1871) (by decide +kernel) (w_eq (by decide) (by decide)) rfl) ?_
        refine XE.go (st_iadd (pc' := 1872) (by decide +kernel) rfl) ?_
        refine XE.gdb (fun g1162 => ?_)
        refine XE.go (st_sld (pc' := 1873) (by decide +kernel) rfl g1162.1 g1162.2) ?_
        refine XE.go (st_aload_n (j := 0) (i := 0) (pc' := 1874) (by decide +kernel) rfl rfl (by decide) rfl) ?_
        refine XE.go (st_iload (j := 4) (pc' := 1876) (by decide +kernel) rfl rfl) ?_
        refine XE.go (st_iconst (n := 3) (pc' := 1877) (by decide +kernel) (w_eq (by decide) (by decide)) rfl) ?_
        refine XE.go (st_iadd (pc' := 1878) (by decide +kernel) rfl) ?_
        refine XE.gdb (fun g1163 => ?_)
        refine XE.go (st_sld (pc' := 1879) (by decide +kernel) rfl g1163.1 g1163.2) ?_
        refine XE.go (st_aload_n (j := 3) (i := 3) (pc' := 1880) (by decide +kernel) rfl rfl (by decide) rfl) ?_
        refine XE.asc ?_
        refine XE.cW1 (pc' := 1883) (st := []) (fun r hr => ct_L_done r hr) (fun r hr => run_S (st := []) (by decide +kernel) co_L_law_243 (ct_L_done r hr) rfl rfl (Nat.le_of_ble_eq_true rfl)) rfl rfl (fun r1164 => ?_)
        refine XE.go (st_istore (j := 5) (pc' := 1885) (by decide +kernel)  rfl (by decide) rfl rfl) ?_
        refine XE.go (st_aload_n (j := 2) (i := 2) (pc' := 1886) (by decide +kernel) rfl rfl (by decide) rfl) ?_
        refine XE.go (st_aload_n (j := 0) (i := 0) (pc' := 1887) (by decide +kernel) rfl rfl (by decide) rfl) ?_
        refine XE.go (st_iload (j := 4) (pc' := 1889) (by decide +kernel) rfl rfl) ?_
        refine XE.go (st_iconst (n := 1) (pc' := 1890) (by decide +kernel) (w_eq (by decide) (by decide)) rfl) ?_
        refine XE.go (st_iadd (pc' := 1891) (by decide +kernel) rfl) ?_
        refine XE.gdb (fun g1165 => ?_)
        refine XE.go (st_sld (pc' := 1892) (by decide +kernel) rfl g1165.1 g1165.2) ?_
        refine XE.go (st_aload_n (j := 0) (i := 0) (pc' := 1893) (by decide +kernel) rfl rfl (by decide) rfl) ?_
        refine XE.go (st_iload (j := 4) (pc' := 1895) (by decide +kernel) rfl rfl) ?_
        refine XE.go (st_iconst (n := 2) (pc' := 1896) (by decide +kernel) (w_eq (by decide) (by decide)) rfl) ?_
        refine XE.go (st_iadd (pc' := 1897) (by decide +kernel) rfl) ?_
        refine XE.gdb (fun g1166 => ?_)
        refine XE.go (st_sld (pc' := 1898) (by decide +kernel) rfl g1166.1 g1166.2) ?_
        refine XE.go (st_aload_n (j := 0) (i := 0) (pc' := 1899) (by decide +kernel) rfl rfl (by decide) rfl) ?_
        refine XE.go (st_iload (j := 4) (pc' := 1901) (by decide +kernel) rfl rfl) ?_
        refine XE.go (st_iconst (n := 3) (pc' := 1902) (by decide +kernel) (w_eq (by decide) (by decide)) rfl) ?_
        refine XE.go (st_iadd (pc' := 1903) (by decide +kernel) rfl) ?_
        refine XE.gdb (fun g1167 => ?_)
        refine XE.go (st_sld (pc' := 1904) (by decide +kernel) rfl g1167.1 g1167.2) ?_
        refine XE.asc ?_
        refine XE.cW (pc' := 1907) (st := []) (fun r hr => ct_X11_done h5 r hr) (fun r hr => run_V (st := []) (by decide +kernel) co_L_law_245 (ct_X11_done h5 r hr) rfl h5 rfl rfl (Nat.le_of_ble_eq_true rfl)) rfl rfl (fun r1168 => ?_)
        refine XE.go (st_istore (j := 6) (pc' := 1909) (by decide +kernel)  rfl (by decide) rfl rfl) ?_
        refine XE.go (st_aload_n (j := 2) (i := 2) (pc' := 1910) (by decide +kernel) rfl rfl (by decide) rfl) ?_
        refine XE.asc ?_
        refine XE.cP (pc' := 1913) (st := []) (fun r hr => ct_X11_thrown h5 r hr) (fun r hr => run_V (st := []) (by decide +kernel) co_L_law_165 (ct_X11_thrown h5 r hr) rfl h5 rfl rfl (Nat.le_of_ble_eq_true rfl)) rfl rfl (fun r1169 => ?_)
        refine XE.go (st_iload (j := 5) (pc' := 1915) (by decide +kernel) rfl rfl) ?_
        refine XE.bite (fun h1170 => ?_) (fun h1171 => ?_)
        · refine XE.go (st_icmp_eq_t (off := 5) (pc' := 1920) (by decide +kernel) (by decide) h1170) ?_
          refine XE.go (st_iload (j := 5) (pc' := 1922) (by decide +kernel) rfl rfl) ?_
          refine XE.bite (fun h1172 => ?_) (fun h1173 => ?_)
          · refine XE.go (st_if_ne_f (off := 15) (pc' := 1925) (by decide +kernel) 1937 (by decide) rfl (not_not_intro h1172)) ?_
            refine XE.go (st_aload_n (j := 3) (i := 3) (pc' := 1926) (by decide +kernel) rfl rfl (by decide) rfl) ?_
            refine XE.go (st_iconst (n := 0) (pc' := 1927) (by decide +kernel) (w_eq (by decide) (by decide)) rfl) ?_
            refine XE.gdb (fun g1174 => ?_)
            refine XE.go (st_ald (k := 15) (tp := 2) (pc' := 1928) (by decide +kernel) rfl ak_15 rfl (by decide) rfl (Or.inr (Or.inr (Or.inl ⟨rfl, rfl⟩))) g1174.1 g1174.2.1 g1174.2.2) ?_
            refine XE.go (st_iload (j := 6) (pc' := 1930) (by decide +kernel) rfl rfl) ?_
            refine XE.go (st_i2l (pc' := 1931) (by decide +kernel) rfl) ?_
            refine XE.go (st_lcmp (pc' := 1932) (by decide +kernel) rfl) ?_
            refine XE.bite (fun h1175 => ?_) (fun h1176 => ?_)
            · refine XE.go (st_if_eq_t (off := 5) (pc' := 1937) (by decide +kernel) (by decide) h1175) ?_
              refine XE.go (st_goto (off := 1411) (pc' := 3348) (by decide +kernel) (by decide)) ?_
              refine XE.go (st_iinc (j := 4) (n := 6) (pc' := 3351) (by decide +kernel) rfl rfl (by decide) rfl rfl) ?_
              refine XE.go (st_goto (off := (-3328)) (pc' := 23) (by decide +kernel) (by decide)) ?_
              exact XE.pick [3, 4, 5, 6, 0] rfl (hc760 ((w (s9.1 + 6)), r1168.2))
            · refine XE.go (st_if_eq_f (off := 5) (pc' := 1935) (by decide +kernel) 1937 (by decide) rfl h1176) ?_
              refine XE.go (st_iconst (n := 0) (pc' := 1936) (by decide +kernel) (w_eq (by decide) (by decide)) rfl) ?_
              refine XE.cast (hx762 _) ?_
              exact XE.rt rfl (X_zret (by decide +kernel) rfl (by decide))
          · refine XE.go (st_if_ne_t (off := 15) (pc' := 1937) (by decide +kernel) (by decide) h1173) ?_
            refine XE.go (st_goto (off := 1411) (pc' := 3348) (by decide +kernel) (by decide)) ?_
            refine XE.go (st_iinc (j := 4) (n := 6) (pc' := 3351) (by decide +kernel) rfl rfl (by decide) rfl rfl) ?_
            refine XE.go (st_goto (off := (-3328)) (pc' := 23) (by decide +kernel) (by decide)) ?_
            exact XE.pick [3, 4, 5, 6, 0] rfl (hc760 ((w (s9.1 + 6)), r1168.2))
        · refine XE.go (st_icmp_eq_f (off := 5) (pc' := 1918) (by decide +kernel) 1920 (by decide) rfl h1171) ?_
          refine XE.go (st_iconst (n := 0) (pc' := 1919) (by decide +kernel) (w_eq (by decide) (by decide)) rfl) ?_
          refine XE.cast (hx762 _) ?_
          exact XE.rt rfl (X_zret (by decide +kernel) rfl (by decide))
      refine XE.bite (fun h1177 => ?_) (fun h1178 => ?_)
      · refine XE.go (st_tab_in (dflt := 3308) (lo := 0) (hi := 44) (offs := #[196, 292, 372, 428, 484, 540, 596, 652, 708, 752, 820, 912, 1004, 1108, 1176, 1232, 1312, 1368, 1424, 1480, 1536, 1604, 1672, 1752, 1820, 1900, 1980, 2048, 2128, 2196, 2264, 2332, 2412, 2480, 2548, 2640, 2720, 2800, 2892, 2972, 3040, 3108, 3164, 3232, 3295]) (len := 196) (off := 1900) (pc' := 1940) (by decide +kernel) 25 h1177 (by decide) (by decide) (by decide) (by decide)) ?_
        unfold c_L_25
        refine XE.go (st_aload_n (j := 1) (i := 1) (pc' := 1941) (by decide +kernel) rfl rfl (by decide) rfl) ?_
        refine XE.go (st_aload_n (j := 0) (i := 0) (pc' := 1942) (by decide +kernel) rfl rfl (by decide) rfl) ?_
        refine XE.go (st_iload (j := 4) (pc' := 1944) (by decide +kernel) rfl rfl) ?_
        refine XE.go (st_iconst (n := 1) (pc' := 1945) (by decide +kernel) (w_eq (by decide) (by decide)) rfl) ?_
        refine XE.go (st_iadd (pc' := 1946) (by decide +kernel) rfl) ?_
        refine XE.gdb (fun g1179 => ?_)
        refine XE.go (st_sld (pc' := 1947) (by decide +kernel) rfl g1179.1 g1179.2) ?_
        refine XE.go (st_aload_n (j := 0) (i := 0) (pc' := 1948) (by decide +kernel) rfl rfl (by decide) rfl) ?_
        refine XE.go (st_iload (j := 4) (pc' := 1950) (by decide +kernel) rfl rfl) ?_
        refine XE.go (st_iconst (n := 2) (pc' := 1951) (by decide +kernel) (w_eq (by decide) (by decide)) rfl) ?_
        refine XE.go (st_iadd (pc' := 1952) (by decide +kernel) rfl) ?_
        refine XE.gdb (fun g1180 => ?_)
        refine XE.go (st_sld (pc' := 1953) (by decide +kernel) rfl g1180.1 g1180.2) ?_
        refine XE.go (st_aload_n (j := 0) (i := 0) (pc' := 1954) (by decide +kernel) rfl rfl (by decide) rfl) ?_
        refine XE.go (st_iload (j := 4) (pc' := 1956) (by decide +kernel) rfl rfl) ?_
        refine XE.go (st_iconst (n := 3) (pc' := 1957) (by decide +kernel) (w_eq (by decide) (by decide)) rfl) ?_
        refine XE.go (st_iadd (pc' := 1958) (by decide +kernel) rfl) ?_
        refine XE.gdb (fun g1181 => ?_)
        refine XE.go (st_sld (pc' := 1959) (by decide +kernel) rfl g1181.1 g1181.2) ?_
        refine XE.go (st_aload_n (j := 3) (i := 3) (pc' := 1960) (by decide +kernel) rfl rfl (by decide) rfl) ?_
        refine XE.asc ?_
        refine XE.cW1 (pc' := 1963) (st := []) (fun r hr => ct_L_retry r hr) (fun r hr => run_S (st := []) (by decide +kernel) co_L_law_246 (ct_L_retry r hr) rfl rfl (Nat.le_of_ble_eq_true rfl)) rfl rfl (fun r1182 => ?_)
        refine XE.go (st_istore (j := 5) (pc' := 1965) (by decide +kernel)  rfl (by decide) rfl rfl) ?_
        refine XE.go (st_aload_n (j := 2) (i := 2) (pc' := 1966) (by decide +kernel) rfl rfl (by decide) rfl) ?_
        refine XE.go (st_aload_n (j := 0) (i := 0) (pc' := 1967) (by decide +kernel) rfl rfl (by decide) rfl) ?_
        refine XE.go (st_iload (j := 4) (pc' := 1969) (by decide +kernel) rfl rfl) ?_
        refine XE.go (st_iconst (n := 1) (pc' := 1970) (by decide +kernel) (w_eq (by decide) (by decide)) rfl) ?_
        refine XE.go (st_iadd (pc' := 1971) (by decide +kernel) rfl) ?_
        refine XE.gdb (fun g1183 => ?_)
        refine XE.go (st_sld (pc' := 1972) (by decide +kernel) rfl g1183.1 g1183.2) ?_
        refine XE.go (st_aload_n (j := 0) (i := 0) (pc' := 1973) (by decide +kernel) rfl rfl (by decide) rfl) ?_
        refine XE.go (st_iload (j := 4) (pc' := 1975) (by decide +kernel) rfl rfl) ?_
        refine XE.go (st_iconst (n := 2) (pc' := 1976) (by decide +kernel) (w_eq (by decide) (by decide)) rfl) ?_
        refine XE.go (st_iadd (pc' := 1977) (by decide +kernel) rfl) ?_
        refine XE.gdb (fun g1184 => ?_)
        refine XE.go (st_sld (pc' := 1978) (by decide +kernel) rfl g1184.1 g1184.2) ?_
        refine XE.go (st_aload_n (j := 0) (i := 0) (pc' := 1979) (by decide +kernel) rfl rfl (by decide) rfl) ?_
        refine XE.go (st_iload (j := 4) (pc' := 1981) (by decide +kernel) rfl rfl) ?_
        refine XE.go (st_iconst (n := 3) (pc' := 1982) (by decide +kernel) (w_eq (by decide) (by decide)) rfl) ?_
        refine XE.go (st_iadd (pc' := 1983) (by decide +kernel) rfl) ?_
        refine XE.gdb (fun g1185 => ?_)
        refine XE.go (st_sld (pc' := 1984) (by decide +kernel) rfl g1185.1 g1185.2) ?_
        refine XE.asc ?_
        refine XE.cW (pc' := 1987) (st := []) (fun r hr => ct_X11_retry h5 r hr) (fun r hr => run_V (st := []) (by decide +kernel) co_L_law_248 (ct_X11_retry h5 r hr) rfl h5 rfl rfl (Nat.le_of_ble_eq_true rfl)) rfl rfl (fun r1186 => ?_)
        refine XE.go (st_istore (j := 6) (pc' := 1989) (by decide +kernel)  rfl (by decide) rfl rfl) ?_
        refine XE.go (st_aload_n (j := 2) (i := 2) (pc' := 1990) (by decide +kernel) rfl rfl (by decide) rfl) ?_
        refine XE.asc ?_
        refine XE.cP (pc' := 1993) (st := []) (fun r hr => ct_X11_thrown h5 r hr) (fun r hr => run_V (st := []) (by decide +kernel) co_L_law_165 (ct_X11_thrown h5 r hr) rfl h5 rfl rfl (Nat.le_of_ble_eq_true rfl)) rfl rfl (fun r1187 => ?_)
        refine XE.go (st_iload (j := 5) (pc' := 1995) (by decide +kernel) rfl rfl) ?_
        refine XE.bite (fun h1188 => ?_) (fun h1189 => ?_)
        · refine XE.go (st_icmp_eq_t (off := 5) (pc' := 2000) (by decide +kernel) (by decide) h1188) ?_
          refine XE.go (st_iload (j := 5) (pc' := 2002) (by decide +kernel) rfl rfl) ?_
          refine XE.bite (fun h1190 => ?_) (fun h1191 => ?_)
          · refine XE.go (st_if_ne_f (off := 15) (pc' := 2005) (by decide +kernel) 2017 (by decide) rfl (not_not_intro h1190)) ?_
            refine XE.go (st_aload_n (j := 3) (i := 3) (pc' := 2006) (by decide +kernel) rfl rfl (by decide) rfl) ?_
            refine XE.go (st_iconst (n := 0) (pc' := 2007) (by decide +kernel) (w_eq (by decide) (by decide)) rfl) ?_
            refine XE.gdb (fun g1192 => ?_)
            refine XE.go (st_ald (k := 15) (tp := 2) (pc' := 2008) (by decide +kernel) rfl ak_15 rfl (by decide) rfl (Or.inr (Or.inr (Or.inl ⟨rfl, rfl⟩))) g1192.1 g1192.2.1 g1192.2.2) ?_
            refine XE.go (st_iload (j := 6) (pc' := 2010) (by decide +kernel) rfl rfl) ?_
            refine XE.go (st_i2l (pc' := 2011) (by decide +kernel) rfl) ?_
            refine XE.go (st_lcmp (pc' := 2012) (by decide +kernel) rfl) ?_
            refine XE.bite (fun h1193 => ?_) (fun h1194 => ?_)
            · refine XE.go (st_if_eq_t (off := 5) (pc' := 2017) (by decide +kernel) (by decide) h1193) ?_
              refine XE.go (st_goto (off := 1331) (pc' := 3348) (by decide +kernel) (by decide)) ?_
              refine XE.go (st_iinc (j := 4) (n := 6) (pc' := 3351) (by decide +kernel) rfl rfl (by decide) rfl rfl) ?_
              refine XE.go (st_goto (off := (-3328)) (pc' := 23) (by decide +kernel) (by decide)) ?_
              exact XE.pick [3, 4, 5, 6, 0] rfl (hc760 ((w (s9.1 + 6)), r1186.2))
            · refine XE.go (st_if_eq_f (off := 5) (pc' := 2015) (by decide +kernel) 2017 (by decide) rfl h1194) ?_
              refine XE.go (st_iconst (n := 0) (pc' := 2016) (by decide +kernel) (w_eq (by decide) (by decide)) rfl) ?_
              refine XE.cast (hx762 _) ?_
              exact XE.rt rfl (X_zret (by decide +kernel) rfl (by decide))
          · refine XE.go (st_if_ne_t (off := 15) (pc' := 2017) (by decide +kernel) (by decide) h1191) ?_
            refine XE.go (st_goto (off := 1331) (pc' := 3348) (by decide +kernel) (by decide)) ?_
            refine XE.go (st_iinc (j := 4) (n := 6) (pc' := 3351) (by decide +kernel) rfl rfl (by decide) rfl rfl) ?_
            refine XE.go (st_goto (off := (-3328)) (pc' := 23) (by decide +kernel) (by decide)) ?_
            exact XE.pick [3, 4, 5, 6, 0] rfl (hc760 ((w (s9.1 + 6)), r1186.2))
        · refine XE.go (st_icmp_eq_f (off := 5) (pc' := 1998) (by decide +kernel) 2000 (by decide) rfl h1189) ?_
          refine XE.go (st_iconst (n := 0) (pc' := 1999) (by decide +kernel) (w_eq (by decide) (by decide)) rfl) ?_
          refine XE.cast (hx762 _) ?_
          exact XE.rt rfl (X_zret (by decide +kernel) rfl (by decide))
      refine XE.bite (fun h1195 => ?_) (fun h1196 => ?_)
      · refine XE.go (st_tab_in (dflt := 3308) (lo := 0) (hi := 44) (offs := #[196, 292, 372, 428, 484, 540, 596, 652, 708, 752, 820, 912, 1004, 1108, 1176, 1232, 1312, 1368, 1424, 1480, 1536, 1604, 1672, 1752, 1820, 1900, 1980, 2048, 2128, 2196, 2264, 2332, 2412, 2480, 2548, 2640, 2720, 2800, 2892, 2972, 3040, 3108, 3164, 3232, 3295]) (len := 196) (off := 1980) (pc' := 2020) (by decide +kernel) 26 h1195 (by decide) (by decide) (by decide) (by decide)) ?_
        unfold c_L_26
        refine XE.go (st_aload_n (j := 1) (i := 1) (pc' := 2021) (by decide +kernel) rfl rfl (by decide) rfl) ?_
        refine XE.go (st_aload_n (j := 0) (i := 0) (pc' := 2022) (by decide +kernel) rfl rfl (by decide) rfl) ?_
        refine XE.go (st_iload (j := 4) (pc' := 2024) (by decide +kernel) rfl rfl) ?_
        refine XE.go (st_iconst (n := 1) (pc' := 2025) (by decide +kernel) (w_eq (by decide) (by decide)) rfl) ?_
        refine XE.go (st_iadd (pc' := 2026) (by decide +kernel) rfl) ?_
        refine XE.gdb (fun g1197 => ?_)
        refine XE.go (st_sld (pc' := 2027) (by decide +kernel) rfl g1197.1 g1197.2) ?_
        refine XE.go (st_aload_n (j := 0) (i := 0) (pc' := 2028) (by decide +kernel) rfl rfl (by decide) rfl) ?_
        refine XE.go (st_iload (j := 4) (pc' := 2030) (by decide +kernel) rfl rfl) ?_
        refine XE.go (st_iconst (n := 2) (pc' := 2031) (by decide +kernel) (w_eq (by decide) (by decide)) rfl) ?_
        refine XE.go (st_iadd (pc' := 2032) (by decide +kernel) rfl) ?_
        refine XE.gdb (fun g1198 => ?_)
        refine XE.go (st_sld (pc' := 2033) (by decide +kernel) rfl g1198.1 g1198.2) ?_
        refine XE.go (st_aload_n (j := 3) (i := 3) (pc' := 2034) (by decide +kernel) rfl rfl (by decide) rfl) ?_
        refine XE.asc ?_
        refine XE.cW1 (pc' := 2037) (st := []) (fun r hr => ct_L_commitOffsets r hr) (fun r hr => run_S (st := []) (by decide +kernel) co_L_law_249 (ct_L_commitOffsets r hr) rfl rfl (Nat.le_of_ble_eq_true rfl)) rfl rfl (fun r1199 => ?_)
        refine XE.go (st_istore (j := 5) (pc' := 2039) (by decide +kernel)  rfl (by decide) rfl rfl) ?_
        refine XE.go (st_aload_n (j := 2) (i := 2) (pc' := 2040) (by decide +kernel) rfl rfl (by decide) rfl) ?_
        refine XE.go (st_aload_n (j := 0) (i := 0) (pc' := 2041) (by decide +kernel) rfl rfl (by decide) rfl) ?_
        refine XE.go (st_iload (j := 4) (pc' := 2043) (by decide +kernel) rfl rfl) ?_
        refine XE.go (st_iconst (n := 1) (pc' := 2044) (by decide +kernel) (w_eq (by decide) (by decide)) rfl) ?_
        refine XE.go (st_iadd (pc' := 2045) (by decide +kernel) rfl) ?_
        refine XE.gdb (fun g1200 => ?_)
        refine XE.go (st_sld (pc' := 2046) (by decide +kernel) rfl g1200.1 g1200.2) ?_
        refine XE.go (st_aload_n (j := 0) (i := 0) (pc' := 2047) (by decide +kernel) rfl rfl (by decide) rfl) ?_
        refine XE.go (st_iload (j := 4) (pc' := 2049) (by decide +kernel) rfl rfl) ?_
        refine XE.go (st_iconst (n := 2) (pc' := 2050) (by decide +kernel) (w_eq (by decide) (by decide)) rfl) ?_
        refine XE.go (st_iadd (pc' := 2051) (by decide +kernel) rfl) ?_
        refine XE.gdb (fun g1201 => ?_)
        refine XE.go (st_sld (pc' := 2052) (by decide +kernel) rfl g1201.1 g1201.2) ?_
        refine XE.asc ?_
        refine XE.cW (pc' := 2055) (st := []) (fun r hr => ct_X11_commitOffsets h5 r hr) (fun r hr => run_V (st := []) (by decide +kernel) co_L_law_251 (ct_X11_commitOffsets h5 r hr) rfl h5 rfl rfl (Nat.le_of_ble_eq_true rfl)) rfl rfl (fun r1202 => ?_)
        refine XE.go (st_istore (j := 6) (pc' := 2057) (by decide +kernel)  rfl (by decide) rfl rfl) ?_
        refine XE.go (st_aload_n (j := 2) (i := 2) (pc' := 2058) (by decide +kernel) rfl rfl (by decide) rfl) ?_
        refine XE.asc ?_
        refine XE.cP (pc' := 2061) (st := []) (fun r hr => ct_X11_thrown h5 r hr) (fun r hr => run_V (st := []) (by decide +kernel) co_L_law_165 (ct_X11_thrown h5 r hr) rfl h5 rfl rfl (Nat.le_of_ble_eq_true rfl)) rfl rfl (fun r1203 => ?_)
        refine XE.go (st_iload (j := 5) (pc' := 2063) (by decide +kernel) rfl rfl) ?_
        refine XE.bite (fun h1204 => ?_) (fun h1205 => ?_)
        · refine XE.go (st_icmp_eq_t (off := 5) (pc' := 2068) (by decide +kernel) (by decide) h1204) ?_
          refine XE.go (st_iload (j := 5) (pc' := 2070) (by decide +kernel) rfl rfl) ?_
          refine XE.bite (fun h1206 => ?_) (fun h1207 => ?_)
          · refine XE.go (st_if_ne_f (off := 15) (pc' := 2073) (by decide +kernel) 2085 (by decide) rfl (not_not_intro h1206)) ?_
            refine XE.go (st_aload_n (j := 3) (i := 3) (pc' := 2074) (by decide +kernel) rfl rfl (by decide) rfl) ?_
            refine XE.go (st_iconst (n := 0) (pc' := 2075) (by decide +kernel) (w_eq (by decide) (by decide)) rfl) ?_
            refine XE.gdb (fun g1208 => ?_)
            refine XE.go (st_ald (k := 15) (tp := 2) (pc' := 2076) (by decide +kernel) rfl ak_15 rfl (by decide) rfl (Or.inr (Or.inr (Or.inl ⟨rfl, rfl⟩))) g1208.1 g1208.2.1 g1208.2.2) ?_
            refine XE.go (st_iload (j := 6) (pc' := 2078) (by decide +kernel) rfl rfl) ?_
            refine XE.go (st_i2l (pc' := 2079) (by decide +kernel) rfl) ?_
            refine XE.go (st_lcmp (pc' := 2080) (by decide +kernel) rfl) ?_
            refine XE.bite (fun h1209 => ?_) (fun h1210 => ?_)
            · refine XE.go (st_if_eq_t (off := 5) (pc' := 2085) (by decide +kernel) (by decide) h1209) ?_
              refine XE.go (st_goto (off := 1263) (pc' := 3348) (by decide +kernel) (by decide)) ?_
              refine XE.go (st_iinc (j := 4) (n := 6) (pc' := 3351) (by decide +kernel) rfl rfl (by decide) rfl rfl) ?_
              refine XE.go (st_goto (off := (-3328)) (pc' := 23) (by decide +kernel) (by decide)) ?_
              exact XE.pick [3, 4, 5, 6, 0] rfl (hc760 ((w (s9.1 + 6)), r1202.2))
            · refine XE.go (st_if_eq_f (off := 5) (pc' := 2083) (by decide +kernel) 2085 (by decide) rfl h1210) ?_
              refine XE.go (st_iconst (n := 0) (pc' := 2084) (by decide +kernel) (w_eq (by decide) (by decide)) rfl) ?_
              refine XE.cast (hx762 _) ?_
              exact XE.rt rfl (X_zret (by decide +kernel) rfl (by decide))
          · refine XE.go (st_if_ne_t (off := 15) (pc' := 2085) (by decide +kernel) (by decide) h1207) ?_
            refine XE.go (st_goto (off := 1263) (pc' := 3348) (by decide +kernel) (by decide)) ?_
            refine XE.go (st_iinc (j := 4) (n := 6) (pc' := 3351) (by decide +kernel) rfl rfl (by decide) rfl rfl) ?_
            refine XE.go (st_goto (off := (-3328)) (pc' := 23) (by decide +kernel) (by decide)) ?_
            exact XE.pick [3, 4, 5, 6, 0] rfl (hc760 ((w (s9.1 + 6)), r1202.2))
        · refine XE.go (st_icmp_eq_f (off := 5) (pc' := 2066) (by decide +kernel) 2068 (by decide) rfl h1205) ?_
          refine XE.go (st_iconst (n := 0) (pc' := 2067) (by decide +kernel) (w_eq (by decide) (by decide)) rfl) ?_
          refine XE.cast (hx762 _) ?_
          exact XE.rt rfl (X_zret (by decide +kernel) rfl (by decide))
      refine XE.bite (fun h1211 => ?_) (fun h1212 => ?_)
      · refine XE.go (st_tab_in (dflt := 3308) (lo := 0) (hi := 44) (offs := #[196, 292, 372, 428, 484, 540, 596, 652, 708, 752, 820, 912, 1004, 1108, 1176, 1232, 1312, 1368, 1424, 1480, 1536, 1604, 1672, 1752, 1820, 1900, 1980, 2048, 2128, 2196, 2264, 2332, 2412, 2480, 2548, 2640, 2720, 2800, 2892, 2972, 3040, 3108, 3164, 3232, 3295]) (len := 196) (off := 2048) (pc' := 2088) (by decide +kernel) 27 h1211 (by decide) (by decide) (by decide) (by decide)) ?_
        unfold c_L_27
        refine XE.go (st_aload_n (j := 1) (i := 1) (pc' := 2089) (by decide +kernel) rfl rfl (by decide) rfl) ?_
        refine XE.go (st_aload_n (j := 0) (i := 0) (pc' := 2090) (by decide +kernel) rfl rfl (by decide) rfl) ?_
        refine XE.go (st_iload (j := 4) (pc' := 2092) (by decide +kernel) rfl rfl) ?_
        refine XE.go (st_iconst (n := 1) (pc' := 2093) (by decide +kernel) (w_eq (by decide) (by decide)) rfl) ?_
        refine XE.go (st_iadd (pc' := 2094) (by decide +kernel) rfl) ?_
        refine XE.gdb (fun g1213 => ?_)
        refine XE.go (st_sld (pc' := 2095) (by decide +kernel) rfl g1213.1 g1213.2) ?_
        refine XE.go (st_aload_n (j := 0) (i := 0) (pc' := 2096) (by decide +kernel) rfl rfl (by decide) rfl) ?_
        refine XE.go (st_iload (j := 4) (pc' := 2098) (by decide +kernel) rfl rfl) ?_
        refine XE.go (st_iconst (n := 2) (pc' := 2099) (by decide +kernel) (w_eq (by decide) (by decide)) rfl) ?_
        refine XE.go (st_iadd (pc' := 2100) (by decide +kernel) rfl) ?_
        refine XE.gdb (fun g1214 => ?_)
        refine XE.go (st_sld (pc' := 2101) (by decide +kernel) rfl g1214.1 g1214.2) ?_
        refine XE.go (st_aload_n (j := 0) (i := 0) (pc' := 2102) (by decide +kernel) rfl rfl (by decide) rfl) ?_
        refine XE.go (st_iload (j := 4) (pc' := 2104) (by decide +kernel) rfl rfl) ?_
        refine XE.go (st_iconst (n := 3) (pc' := 2105) (by decide +kernel) (w_eq (by decide) (by decide)) rfl) ?_
        refine XE.go (st_iadd (pc' := 2106) (by decide +kernel) rfl) ?_
        refine XE.gdb (fun g1215 => ?_)
        refine XE.go (st_sld (pc' := 2107) (by decide +kernel) rfl g1215.1 g1215.2) ?_
        refine XE.go (st_aload_n (j := 3) (i := 3) (pc' := 2108) (by decide +kernel) rfl rfl (by decide) rfl) ?_
        refine XE.asc ?_
        refine XE.cW1 (pc' := 2111) (st := []) (fun r hr => ct_L_seek r hr) (fun r hr => run_S (st := []) (by decide +kernel) co_L_law_252 (ct_L_seek r hr) rfl rfl (Nat.le_of_ble_eq_true rfl)) rfl rfl (fun r1216 => ?_)
        refine XE.go (st_istore (j := 5) (pc' := 2113) (by decide +kernel)  rfl (by decide) rfl rfl) ?_
        refine XE.go (st_aload_n (j := 2) (i := 2) (pc' := 2114) (by decide +kernel) rfl rfl (by decide) rfl) ?_
        refine XE.go (st_aload_n (j := 0) (i := 0) (pc' := 2115) (by decide +kernel) rfl rfl (by decide) rfl) ?_
        refine XE.go (st_iload (j := 4) (pc' := 2117) (by decide +kernel) rfl rfl) ?_
        refine XE.go (st_iconst (n := 1) (pc' := 2118) (by decide +kernel) (w_eq (by decide) (by decide)) rfl) ?_
        refine XE.go (st_iadd (pc' := 2119) (by decide +kernel) rfl) ?_
        refine XE.gdb (fun g1217 => ?_)
        refine XE.go (st_sld (pc' := 2120) (by decide +kernel) rfl g1217.1 g1217.2) ?_
        refine XE.go (st_aload_n (j := 0) (i := 0) (pc' := 2121) (by decide +kernel) rfl rfl (by decide) rfl) ?_
        refine XE.go (st_iload (j := 4) (pc' := 2123) (by decide +kernel) rfl rfl) ?_
        refine XE.go (st_iconst (n := 2) (pc' := 2124) (by decide +kernel) (w_eq (by decide) (by decide)) rfl) ?_
        refine XE.go (st_iadd (pc' := 2125) (by decide +kernel) rfl) ?_
        refine XE.gdb (fun g1218 => ?_)
        refine XE.go (st_sld (pc' := 2126) (by decide +kernel) rfl g1218.1 g1218.2) ?_
        refine XE.go (st_aload_n (j := 0) (i := 0) (pc' := 2127) (by decide +kernel) rfl rfl (by decide) rfl) ?_
        refine XE.go (st_iload (j := 4) (pc' := 2129) (by decide +kernel) rfl rfl) ?_
        refine XE.go (st_iconst (n := 3) (pc' := 2130) (by decide +kernel) (w_eq (by decide) (by decide)) rfl) ?_
        refine XE.go (st_iadd (pc' := 2131) (by decide +kernel) rfl) ?_
        refine XE.gdb (fun g1219 => ?_)
        refine XE.go (st_sld (pc' := 2132) (by decide +kernel) rfl g1219.1 g1219.2) ?_
        refine XE.asc ?_
        refine XE.cW (pc' := 2135) (st := []) (fun r hr => ct_X11_seek h5 r hr) (fun r hr => run_V (st := []) (by decide +kernel) co_L_law_254 (ct_X11_seek h5 r hr) rfl h5 rfl rfl (Nat.le_of_ble_eq_true rfl)) rfl rfl (fun r1220 => ?_)
        refine XE.go (st_istore (j := 6) (pc' := 2137) (by decide +kernel)  rfl (by decide) rfl rfl) ?_
        refine XE.go (st_aload_n (j := 2) (i := 2) (pc' := 2138) (by decide +kernel) rfl rfl (by decide) rfl) ?_
        refine XE.asc ?_
        refine XE.cP (pc' := 2141) (st := []) (fun r hr => ct_X11_thrown h5 r hr) (fun r hr => run_V (st := []) (by decide +kernel) co_L_law_165 (ct_X11_thrown h5 r hr) rfl h5 rfl rfl (Nat.le_of_ble_eq_true rfl)) rfl rfl (fun r1221 => ?_)
        refine XE.go (st_iload (j := 5) (pc' := 2143) (by decide +kernel) rfl rfl) ?_
        refine XE.bite (fun h1222 => ?_) (fun h1223 => ?_)
        · refine XE.go (st_icmp_eq_t (off := 5) (pc' := 2148) (by decide +kernel) (by decide) h1222) ?_
          refine XE.go (st_iload (j := 5) (pc' := 2150) (by decide +kernel) rfl rfl) ?_
          refine XE.bite (fun h1224 => ?_) (fun h1225 => ?_)
          · refine XE.go (st_if_ne_f (off := 15) (pc' := 2153) (by decide +kernel) 2165 (by decide) rfl (not_not_intro h1224)) ?_
            refine XE.go (st_aload_n (j := 3) (i := 3) (pc' := 2154) (by decide +kernel) rfl rfl (by decide) rfl) ?_
            refine XE.go (st_iconst (n := 0) (pc' := 2155) (by decide +kernel) (w_eq (by decide) (by decide)) rfl) ?_
            refine XE.gdb (fun g1226 => ?_)
            refine XE.go (st_ald (k := 15) (tp := 2) (pc' := 2156) (by decide +kernel) rfl ak_15 rfl (by decide) rfl (Or.inr (Or.inr (Or.inl ⟨rfl, rfl⟩))) g1226.1 g1226.2.1 g1226.2.2) ?_
            refine XE.go (st_iload (j := 6) (pc' := 2158) (by decide +kernel) rfl rfl) ?_
            refine XE.go (st_i2l (pc' := 2159) (by decide +kernel) rfl) ?_
            refine XE.go (st_lcmp (pc' := 2160) (by decide +kernel) rfl) ?_
            refine XE.bite (fun h1227 => ?_) (fun h1228 => ?_)
            · refine XE.go (st_if_eq_t (off := 5) (pc' := 2165) (by decide +kernel) (by decide) h1227) ?_
              refine XE.go (st_goto (off := 1183) (pc' := 3348) (by decide +kernel) (by decide)) ?_
              refine XE.go (st_iinc (j := 4) (n := 6) (pc' := 3351) (by decide +kernel) rfl rfl (by decide) rfl rfl) ?_
              refine XE.go (st_goto (off := (-3328)) (pc' := 23) (by decide +kernel) (by decide)) ?_
              exact XE.pick [3, 4, 5, 6, 0] rfl (hc760 ((w (s9.1 + 6)), r1220.2))
            · refine XE.go (st_if_eq_f (off := 5) (pc' := 2163) (by decide +kernel) 2165 (by decide) rfl h1228) ?_
              refine XE.go (st_iconst (n := 0) (pc' := 2164) (by decide +kernel) (w_eq (by decide) (by decide)) rfl) ?_
              refine XE.cast (hx762 _) ?_
              exact XE.rt rfl (X_zret (by decide +kernel) rfl (by decide))
          · refine XE.go (st_if_ne_t (off := 15) (pc' := 2165) (by decide +kernel) (by decide) h1225) ?_
            refine XE.go (st_goto (off := 1183) (pc' := 3348) (by decide +kernel) (by decide)) ?_
            refine XE.go (st_iinc (j := 4) (n := 6) (pc' := 3351) (by decide +kernel) rfl rfl (by decide) rfl rfl) ?_
            refine XE.go (st_goto (off := (-3328)) (pc' := 23) (by decide +kernel) (by decide)) ?_
            exact XE.pick [3, 4, 5, 6, 0] rfl (hc760 ((w (s9.1 + 6)), r1220.2))
        · refine XE.go (st_icmp_eq_f (off := 5) (pc' := 2146) (by decide +kernel) 2148 (by decide) rfl h1223) ?_
          refine XE.go (st_iconst (n := 0) (pc' := 2147) (by decide +kernel) (w_eq (by decide) (by decide)) rfl) ?_
          refine XE.cast (hx762 _) ?_
          exact XE.rt rfl (X_zret (by decide +kernel) rfl (by decide))
      refine XE.bite (fun h1229 => ?_) (fun h1230 => ?_)
      · refine XE.go (st_tab_in (dflt := 3308) (lo := 0) (hi := 44) (offs := #[196, 292, 372, 428, 484, 540, 596, 652, 708, 752, 820, 912, 1004, 1108, 1176, 1232, 1312, 1368, 1424, 1480, 1536, 1604, 1672, 1752, 1820, 1900, 1980, 2048, 2128, 2196, 2264, 2332, 2412, 2480, 2548, 2640, 2720, 2800, 2892, 2972, 3040, 3108, 3164, 3232, 3295]) (len := 196) (off := 2128) (pc' := 2168) (by decide +kernel) 28 h1229 (by decide) (by decide) (by decide) (by decide)) ?_
        unfold c_L_28
        refine XE.go (st_aload_n (j := 1) (i := 1) (pc' := 2169) (by decide +kernel) rfl rfl (by decide) rfl) ?_
        refine XE.go (st_aload_n (j := 0) (i := 0) (pc' := 2170) (by decide +kernel) rfl rfl (by decide) rfl) ?_
        refine XE.go (st_iload (j := 4) (pc' := 2172) (by decide +kernel) rfl rfl) ?_
        refine XE.go (st_iconst (n := 1) (pc' := 2173) (by decide +kernel) (w_eq (by decide) (by decide)) rfl) ?_
        refine XE.go (st_iadd (pc' := 2174) (by decide +kernel) rfl) ?_
        refine XE.gdb (fun g1231 => ?_)
        refine XE.go (st_sld (pc' := 2175) (by decide +kernel) rfl g1231.1 g1231.2) ?_
        refine XE.go (st_aload_n (j := 0) (i := 0) (pc' := 2176) (by decide +kernel) rfl rfl (by decide) rfl) ?_
        refine XE.go (st_iload (j := 4) (pc' := 2178) (by decide +kernel) rfl rfl) ?_
        refine XE.go (st_iconst (n := 2) (pc' := 2179) (by decide +kernel) (w_eq (by decide) (by decide)) rfl) ?_
        refine XE.go (st_iadd (pc' := 2180) (by decide +kernel) rfl) ?_
        refine XE.gdb (fun g1232 => ?_)
        refine XE.go (st_sld (pc' := 2181) (by decide +kernel) rfl g1232.1 g1232.2) ?_
        refine XE.go (st_aload_n (j := 3) (i := 3) (pc' := 2182) (by decide +kernel) rfl rfl (by decide) rfl) ?_
        refine XE.asc ?_
        refine XE.cW1 (pc' := 2185) (st := []) (fun r hr => ct_L_message r hr) (fun r hr => run_S (st := []) (by decide +kernel) co_L_law_255 (ct_L_message r hr) rfl rfl (Nat.le_of_ble_eq_true rfl)) rfl rfl (fun r1233 => ?_)
        refine XE.go (st_istore (j := 5) (pc' := 2187) (by decide +kernel)  rfl (by decide) rfl rfl) ?_
        refine XE.go (st_aload_n (j := 2) (i := 2) (pc' := 2188) (by decide +kernel) rfl rfl (by decide) rfl) ?_
        refine XE.go (st_aload_n (j := 0) (i := 0) (pc' := 2189) (by decide +kernel) rfl rfl (by decide) rfl) ?_
        refine XE.go (st_iload (j := 4) (pc' := 2191) (by decide +kernel) rfl rfl) ?_
        refine XE.go (st_iconst (n := 1) (pc' := 2192) (by decide +kernel) (w_eq (by decide) (by decide)) rfl) ?_
        refine XE.go (st_iadd (pc' := 2193) (by decide +kernel) rfl) ?_
        refine XE.gdb (fun g1234 => ?_)
        refine XE.go (st_sld (pc' := 2194) (by decide +kernel) rfl g1234.1 g1234.2) ?_
        refine XE.go (st_aload_n (j := 0) (i := 0) (pc' := 2195) (by decide +kernel) rfl rfl (by decide) rfl) ?_
        refine XE.go (st_iload (j := 4) (pc' := 2197) (by decide +kernel) rfl rfl) ?_
        refine XE.go (st_iconst (n := 2) (pc' := 2198) (by decide +kernel) (w_eq (by decide) (by decide)) rfl) ?_
        refine XE.go (st_iadd (pc' := 2199) (by decide +kernel) rfl) ?_
        refine XE.gdb (fun g1235 => ?_)
        refine XE.go (st_sld (pc' := 2200) (by decide +kernel) rfl g1235.1 g1235.2) ?_
        refine XE.asc ?_
        refine XE.cW (pc' := 2203) (st := []) (fun r hr => ct_X11_message h5 r hr) (fun r hr => run_V (st := []) (by decide +kernel) co_L_law_257 (ct_X11_message h5 r hr) rfl h5 rfl rfl (Nat.le_of_ble_eq_true rfl)) rfl rfl (fun r1236 => ?_)
        refine XE.go (st_istore (j := 6) (pc' := 2205) (by decide +kernel)  rfl (by decide) rfl rfl) ?_
        refine XE.go (st_aload_n (j := 2) (i := 2) (pc' := 2206) (by decide +kernel) rfl rfl (by decide) rfl) ?_
        refine XE.asc ?_
        refine XE.cP (pc' := 2209) (st := []) (fun r hr => ct_X11_thrown h5 r hr) (fun r hr => run_V (st := []) (by decide +kernel) co_L_law_165 (ct_X11_thrown h5 r hr) rfl h5 rfl rfl (Nat.le_of_ble_eq_true rfl)) rfl rfl (fun r1237 => ?_)
        refine XE.go (st_iload (j := 5) (pc' := 2211) (by decide +kernel) rfl rfl) ?_
        refine XE.bite (fun h1238 => ?_) (fun h1239 => ?_)
        · refine XE.go (st_icmp_eq_t (off := 5) (pc' := 2216) (by decide +kernel) (by decide) h1238) ?_
          refine XE.go (st_iload (j := 5) (pc' := 2218) (by decide +kernel) rfl rfl) ?_
          refine XE.bite (fun h1240 => ?_) (fun h1241 => ?_)
          · refine XE.go (st_if_ne_f (off := 15) (pc' := 2221) (by decide +kernel) 2233 (by decide) rfl (not_not_intro h1240)) ?_
            refine XE.go (st_aload_n (j := 3) (i := 3) (pc' := 2222) (by decide +kernel) rfl rfl (by decide) rfl) ?_
            refine XE.go (st_iconst (n := 0) (pc' := 2223) (by decide +kernel) (w_eq (by decide) (by decide)) rfl) ?_
            refine XE.gdb (fun g1242 => ?_)
            refine XE.go (st_ald (k := 15) (tp := 2) (pc' := 2224) (by decide +kernel) rfl ak_15 rfl (by decide) rfl (Or.inr (Or.inr (Or.inl ⟨rfl, rfl⟩))) g1242.1 g1242.2.1 g1242.2.2) ?_
            refine XE.go (st_iload (j := 6) (pc' := 2226) (by decide +kernel) rfl rfl) ?_
            refine XE.go (st_i2l (pc' := 2227) (by decide +kernel) rfl) ?_
            refine XE.go (st_lcmp (pc' := 2228) (by decide +kernel) rfl) ?_
            refine XE.bite (fun h1243 => ?_) (fun h1244 => ?_)
            · refine XE.go (st_if_eq_t (off := 5) (pc' := 2233) (by decide +kernel) (by decide) h1243) ?_
              refine XE.go (st_goto (off := 1115) (pc' := 3348) (by decide +kernel) (by decide)) ?_
              refine XE.go (st_iinc (j := 4) (n := 6) (pc' := 3351) (by decide +kernel) rfl rfl (by decide) rfl rfl) ?_
              refine XE.go (st_goto (off := (-3328)) (pc' := 23) (by decide +kernel) (by decide)) ?_
              exact XE.pick [3, 4, 5, 6, 0] rfl (hc760 ((w (s9.1 + 6)), r1236.2))
            · refine XE.go (st_if_eq_f (off := 5) (pc' := 2231) (by decide +kernel) 2233 (by decide) rfl h1244) ?_
              refine XE.go (st_iconst (n := 0) (pc' := 2232) (by decide +kernel) (w_eq (by decide) (by decide)) rfl) ?_
              refine XE.cast (hx762 _) ?_
              exact XE.rt rfl (X_zret (by decide +kernel) rfl (by decide))
          · refine XE.go (st_if_ne_t (off := 15) (pc' := 2233) (by decide +kernel) (by decide) h1241) ?_
            refine XE.go (st_goto (off := 1115) (pc' := 3348) (by decide +kernel) (by decide)) ?_
            refine XE.go (st_iinc (j := 4) (n := 6) (pc' := 3351) (by decide +kernel) rfl rfl (by decide) rfl rfl) ?_
            refine XE.go (st_goto (off := (-3328)) (pc' := 23) (by decide +kernel) (by decide)) ?_
            exact XE.pick [3, 4, 5, 6, 0] rfl (hc760 ((w (s9.1 + 6)), r1236.2))
        · refine XE.go (st_icmp_eq_f (off := 5) (pc' := 2214) (by decide +kernel) 2216 (by decide) rfl h1239) ?_
          refine XE.go (st_iconst (n := 0) (pc' := 2215) (by decide +kernel) (w_eq (by decide) (by decide)) rfl) ?_
          refine XE.cast (hx762 _) ?_
          exact XE.rt rfl (X_zret (by decide +kernel) rfl (by decide))
      refine XE.bite (fun h1245 => ?_) (fun h1246 => ?_)
      · refine XE.go (st_tab_in (dflt := 3308) (lo := 0) (hi := 44) (offs := #[196, 292, 372, 428, 484, 540, 596, 652, 708, 752, 820, 912, 1004, 1108, 1176, 1232, 1312, 1368, 1424, 1480, 1536, 1604, 1672, 1752, 1820, 1900, 1980, 2048, 2128, 2196, 2264, 2332, 2412, 2480, 2548, 2640, 2720, 2800, 2892, 2972, 3040, 3108, 3164, 3232, 3295]) (len := 196) (off := 2196) (pc' := 2236) (by decide +kernel) 29 h1245 (by decide) (by decide) (by decide) (by decide)) ?_
        unfold c_L_29
        refine XE.go (st_aload_n (j := 1) (i := 1) (pc' := 2237) (by decide +kernel) rfl rfl (by decide) rfl) ?_
        refine XE.go (st_aload_n (j := 0) (i := 0) (pc' := 2238) (by decide +kernel) rfl rfl (by decide) rfl) ?_
        refine XE.go (st_iload (j := 4) (pc' := 2240) (by decide +kernel) rfl rfl) ?_
        refine XE.go (st_iconst (n := 1) (pc' := 2241) (by decide +kernel) (w_eq (by decide) (by decide)) rfl) ?_
        refine XE.go (st_iadd (pc' := 2242) (by decide +kernel) rfl) ?_
        refine XE.gdb (fun g1247 => ?_)
        refine XE.go (st_sld (pc' := 2243) (by decide +kernel) rfl g1247.1 g1247.2) ?_
        refine XE.go (st_aload_n (j := 0) (i := 0) (pc' := 2244) (by decide +kernel) rfl rfl (by decide) rfl) ?_
        refine XE.go (st_iload (j := 4) (pc' := 2246) (by decide +kernel) rfl rfl) ?_
        refine XE.go (st_iconst (n := 2) (pc' := 2247) (by decide +kernel) (w_eq (by decide) (by decide)) rfl) ?_
        refine XE.go (st_iadd (pc' := 2248) (by decide +kernel) rfl) ?_
        refine XE.gdb (fun g1248 => ?_)
        refine XE.go (st_sld (pc' := 2249) (by decide +kernel) rfl g1248.1 g1248.2) ?_
        refine XE.go (st_aload_n (j := 3) (i := 3) (pc' := 2250) (by decide +kernel) rfl rfl (by decide) rfl) ?_
        refine XE.asc ?_
        refine XE.cW1 (pc' := 2253) (st := []) (fun r hr => ct_L_at r hr) (fun r hr => run_S (st := []) (by decide +kernel) co_L_law_258 (ct_L_at r hr) rfl rfl (Nat.le_of_ble_eq_true rfl)) rfl rfl (fun r1249 => ?_)
        refine XE.go (st_istore (j := 5) (pc' := 2255) (by decide +kernel)  rfl (by decide) rfl rfl) ?_
        refine XE.go (st_aload_n (j := 2) (i := 2) (pc' := 2256) (by decide +kernel) rfl rfl (by decide) rfl) ?_
        refine XE.go (st_aload_n (j := 0) (i := 0) (pc' := 2257) (by decide +kernel) rfl rfl (by decide) rfl) ?_
        refine XE.go (st_iload (j := 4) (pc' := 2259) (by decide +kernel) rfl rfl) ?_
        refine XE.go (st_iconst (n := 1) (pc' := 2260) (by decide +kernel) (w_eq (by decide) (by decide)) rfl) ?_
        refine XE.go (st_iadd (pc' := 2261) (by decide +kernel) rfl) ?_
        refine XE.gdb (fun g1250 => ?_)
        refine XE.go (st_sld (pc' := 2262) (by decide +kernel) rfl g1250.1 g1250.2) ?_
        refine XE.go (st_aload_n (j := 0) (i := 0) (pc' := 2263) (by decide +kernel) rfl rfl (by decide) rfl) ?_
        refine XE.go (st_iload (j := 4) (pc' := 2265) (by decide +kernel) rfl rfl) ?_
        refine XE.go (st_iconst (n := 2) (pc' := 2266) (by decide +kernel) (w_eq (by decide) (by decide)) rfl) ?_
        refine XE.go (st_iadd (pc' := 2267) (by decide +kernel) rfl) ?_
        refine XE.gdb (fun g1251 => ?_)
        refine XE.go (st_sld (pc' := 2268) (by decide +kernel) rfl g1251.1 g1251.2) ?_
        refine XE.asc ?_
        refine XE.cW (pc' := 2271) (st := []) (fun r hr => ct_X11_at h5 r hr) (fun r hr => run_V (st := []) (by decide +kernel) co_L_law_260 (ct_X11_at h5 r hr) rfl h5 rfl rfl (Nat.le_of_ble_eq_true rfl)) rfl rfl (fun r1252 => ?_)
        refine XE.go (st_istore (j := 6) (pc' := 2273) (by decide +kernel)  rfl (by decide) rfl rfl) ?_
        refine XE.go (st_aload_n (j := 2) (i := 2) (pc' := 2274) (by decide +kernel) rfl rfl (by decide) rfl) ?_
        refine XE.asc ?_
        refine XE.cP (pc' := 2277) (st := []) (fun r hr => ct_X11_thrown h5 r hr) (fun r hr => run_V (st := []) (by decide +kernel) co_L_law_165 (ct_X11_thrown h5 r hr) rfl h5 rfl rfl (Nat.le_of_ble_eq_true rfl)) rfl rfl (fun r1253 => ?_)
        refine XE.go (st_iload (j := 5) (pc' := 2279) (by decide +kernel) rfl rfl) ?_
        refine XE.bite (fun h1254 => ?_) (fun h1255 => ?_)
        · refine XE.go (st_icmp_eq_t (off := 5) (pc' := 2284) (by decide +kernel) (by decide) h1254) ?_
          refine XE.go (st_iload (j := 5) (pc' := 2286) (by decide +kernel) rfl rfl) ?_
          refine XE.bite (fun h1256 => ?_) (fun h1257 => ?_)
          · refine XE.go (st_if_ne_f (off := 15) (pc' := 2289) (by decide +kernel) 2301 (by decide) rfl (not_not_intro h1256)) ?_
            refine XE.go (st_aload_n (j := 3) (i := 3) (pc' := 2290) (by decide +kernel) rfl rfl (by decide) rfl) ?_
            refine XE.go (st_iconst (n := 0) (pc' := 2291) (by decide +kernel) (w_eq (by decide) (by decide)) rfl) ?_
            refine XE.gdb (fun g1258 => ?_)
            refine XE.go (st_ald (k := 15) (tp := 2) (pc' := 2292) (by decide +kernel) rfl ak_15 rfl (by decide) rfl (Or.inr (Or.inr (Or.inl ⟨rfl, rfl⟩))) g1258.1 g1258.2.1 g1258.2.2) ?_
            refine XE.go (st_iload (j := 6) (pc' := 2294) (by decide +kernel) rfl rfl) ?_
            refine XE.go (st_i2l (pc' := 2295) (by decide +kernel) rfl) ?_
            refine XE.go (st_lcmp (pc' := 2296) (by decide +kernel) rfl) ?_
            refine XE.bite (fun h1259 => ?_) (fun h1260 => ?_)
            · refine XE.go (st_if_eq_t (off := 5) (pc' := 2301) (by decide +kernel) (by decide) h1259) ?_
              refine XE.go (st_goto (off := 1047) (pc' := 3348) (by decide +kernel) (by decide)) ?_
              refine XE.go (st_iinc (j := 4) (n := 6) (pc' := 3351) (by decide +kernel) rfl rfl (by decide) rfl rfl) ?_
              refine XE.go (st_goto (off := (-3328)) (pc' := 23) (by decide +kernel) (by decide)) ?_
              exact XE.pick [3, 4, 5, 6, 0] rfl (hc760 ((w (s9.1 + 6)), r1252.2))
            · refine XE.go (st_if_eq_f (off := 5) (pc' := 2299) (by decide +kernel) 2301 (by decide) rfl h1260) ?_
              refine XE.go (st_iconst (n := 0) (pc' := 2300) (by decide +kernel) (w_eq (by decide) (by decide)) rfl) ?_
              refine XE.cast (hx762 _) ?_
              exact XE.rt rfl (X_zret (by decide +kernel) rfl (by decide))
          · refine XE.go (st_if_ne_t (off := 15) (pc' := 2301) (by decide +kernel) (by decide) h1257) ?_
            refine XE.go (st_goto (off := 1047) (pc' := 3348) (by decide +kernel) (by decide)) ?_
            refine XE.go (st_iinc (j := 4) (n := 6) (pc' := 3351) (by decide +kernel) rfl rfl (by decide) rfl rfl) ?_
            refine XE.go (st_goto (off := (-3328)) (pc' := 23) (by decide +kernel) (by decide)) ?_
            exact XE.pick [3, 4, 5, 6, 0] rfl (hc760 ((w (s9.1 + 6)), r1252.2))
        · refine XE.go (st_icmp_eq_f (off := 5) (pc' := 2282) (by decide +kernel) 2284 (by decide) rfl h1255) ?_
          refine XE.go (st_iconst (n := 0) (pc' := 2283) (by decide +kernel) (w_eq (by decide) (by decide)) rfl) ?_
          refine XE.cast (hx762 _) ?_
          exact XE.rt rfl (X_zret (by decide +kernel) rfl (by decide))
      refine XE.bite (fun h1261 => ?_) (fun h1262 => ?_)
      · refine XE.go (st_tab_in (dflt := 3308) (lo := 0) (hi := 44) (offs := #[196, 292, 372, 428, 484, 540, 596, 652, 708, 752, 820, 912, 1004, 1108, 1176, 1232, 1312, 1368, 1424, 1480, 1536, 1604, 1672, 1752, 1820, 1900, 1980, 2048, 2128, 2196, 2264, 2332, 2412, 2480, 2548, 2640, 2720, 2800, 2892, 2972, 3040, 3108, 3164, 3232, 3295]) (len := 196) (off := 2264) (pc' := 2304) (by decide +kernel) 30 h1261 (by decide) (by decide) (by decide) (by decide)) ?_
        unfold c_L_30
        refine XE.go (st_aload_n (j := 1) (i := 1) (pc' := 2305) (by decide +kernel) rfl rfl (by decide) rfl) ?_
        refine XE.go (st_aload_n (j := 0) (i := 0) (pc' := 2306) (by decide +kernel) rfl rfl (by decide) rfl) ?_
        refine XE.go (st_iload (j := 4) (pc' := 2308) (by decide +kernel) rfl rfl) ?_
        refine XE.go (st_iconst (n := 1) (pc' := 2309) (by decide +kernel) (w_eq (by decide) (by decide)) rfl) ?_
        refine XE.go (st_iadd (pc' := 2310) (by decide +kernel) rfl) ?_
        refine XE.gdb (fun g1263 => ?_)
        refine XE.go (st_sld (pc' := 2311) (by decide +kernel) rfl g1263.1 g1263.2) ?_
        refine XE.go (st_aload_n (j := 0) (i := 0) (pc' := 2312) (by decide +kernel) rfl rfl (by decide) rfl) ?_
        refine XE.go (st_iload (j := 4) (pc' := 2314) (by decide +kernel) rfl rfl) ?_
        refine XE.go (st_iconst (n := 2) (pc' := 2315) (by decide +kernel) (w_eq (by decide) (by decide)) rfl) ?_
        refine XE.go (st_iadd (pc' := 2316) (by decide +kernel) rfl) ?_
        refine XE.gdb (fun g1264 => ?_)
        refine XE.go (st_sld (pc' := 2317) (by decide +kernel) rfl g1264.1 g1264.2) ?_
        refine XE.go (st_aload_n (j := 3) (i := 3) (pc' := 2318) (by decide +kernel) rfl rfl (by decide) rfl) ?_
        refine XE.asc ?_
        refine XE.cW1 (pc' := 2321) (st := []) (fun r hr => ct_L_partition r hr) (fun r hr => run_S (st := []) (by decide +kernel) co_L_law_261 (ct_L_partition r hr) rfl rfl (Nat.le_of_ble_eq_true rfl)) rfl rfl (fun r1265 => ?_)
        refine XE.go (st_istore (j := 5) (pc' := 2323) (by decide +kernel)  rfl (by decide) rfl rfl) ?_
        refine XE.go (st_aload_n (j := 2) (i := 2) (pc' := 2324) (by decide +kernel) rfl rfl (by decide) rfl) ?_
        refine XE.go (st_aload_n (j := 0) (i := 0) (pc' := 2325) (by decide +kernel) rfl rfl (by decide) rfl) ?_
        refine XE.go (st_iload (j := 4) (pc' := 2327) (by decide +kernel) rfl rfl) ?_
        refine XE.go (st_iconst (n := 1) (pc' := 2328) (by decide +kernel) (w_eq (by decide) (by decide)) rfl) ?_
        refine XE.go (st_iadd (pc' := 2329) (by decide +kernel) rfl) ?_
        refine XE.gdb (fun g1266 => ?_)
        refine XE.go (st_sld (pc' := 2330) (by decide +kernel) rfl g1266.1 g1266.2) ?_
        refine XE.go (st_aload_n (j := 0) (i := 0) (pc' := 2331) (by decide +kernel) rfl rfl (by decide) rfl) ?_
        refine XE.go (st_iload (j := 4) (pc' := 2333) (by decide +kernel) rfl rfl) ?_
        refine XE.go (st_iconst (n := 2) (pc' := 2334) (by decide +kernel) (w_eq (by decide) (by decide)) rfl) ?_
        refine XE.go (st_iadd (pc' := 2335) (by decide +kernel) rfl) ?_
        refine XE.gdb (fun g1267 => ?_)
        refine XE.go (st_sld (pc' := 2336) (by decide +kernel) rfl g1267.1 g1267.2) ?_
        refine XE.asc ?_
        refine XE.cW (pc' := 2339) (st := []) (fun r hr => ct_X11_partition h5 r hr) (fun r hr => run_V (st := []) (by decide +kernel) co_L_law_263 (ct_X11_partition h5 r hr) rfl h5 rfl rfl (Nat.le_of_ble_eq_true rfl)) rfl rfl (fun r1268 => ?_)
        refine XE.go (st_istore (j := 6) (pc' := 2341) (by decide +kernel)  rfl (by decide) rfl rfl) ?_
        refine XE.go (st_aload_n (j := 2) (i := 2) (pc' := 2342) (by decide +kernel) rfl rfl (by decide) rfl) ?_
        refine XE.asc ?_
        refine XE.cP (pc' := 2345) (st := []) (fun r hr => ct_X11_thrown h5 r hr) (fun r hr => run_V (st := []) (by decide +kernel) co_L_law_165 (ct_X11_thrown h5 r hr) rfl h5 rfl rfl (Nat.le_of_ble_eq_true rfl)) rfl rfl (fun r1269 => ?_)
        refine XE.go (st_iload (j := 5) (pc' := 2347) (by decide +kernel) rfl rfl) ?_
        refine XE.bite (fun h1270 => ?_) (fun h1271 => ?_)
        · refine XE.go (st_icmp_eq_t (off := 5) (pc' := 2352) (by decide +kernel) (by decide) h1270) ?_
          refine XE.go (st_iload (j := 5) (pc' := 2354) (by decide +kernel) rfl rfl) ?_
          refine XE.bite (fun h1272 => ?_) (fun h1273 => ?_)
          · refine XE.go (st_if_ne_f (off := 15) (pc' := 2357) (by decide +kernel) 2369 (by decide) rfl (not_not_intro h1272)) ?_
            refine XE.go (st_aload_n (j := 3) (i := 3) (pc' := 2358) (by decide +kernel) rfl rfl (by decide) rfl) ?_
            refine XE.go (st_iconst (n := 0) (pc' := 2359) (by decide +kernel) (w_eq (by decide) (by decide)) rfl) ?_
            refine XE.gdb (fun g1274 => ?_)
            refine XE.go (st_ald (k := 15) (tp := 2) (pc' := 2360) (by decide +kernel) rfl ak_15 rfl (by decide) rfl (Or.inr (Or.inr (Or.inl ⟨rfl, rfl⟩))) g1274.1 g1274.2.1 g1274.2.2) ?_
            refine XE.go (st_iload (j := 6) (pc' := 2362) (by decide +kernel) rfl rfl) ?_
            refine XE.go (st_i2l (pc' := 2363) (by decide +kernel) rfl) ?_
            refine XE.go (st_lcmp (pc' := 2364) (by decide +kernel) rfl) ?_
            refine XE.bite (fun h1275 => ?_) (fun h1276 => ?_)
            · refine XE.go (st_if_eq_t (off := 5) (pc' := 2369) (by decide +kernel) (by decide) h1275) ?_
              refine XE.go (st_goto (off := 979) (pc' := 3348) (by decide +kernel) (by decide)) ?_
              refine XE.go (st_iinc (j := 4) (n := 6) (pc' := 3351) (by decide +kernel) rfl rfl (by decide) rfl rfl) ?_
              refine XE.go (st_goto (off := (-3328)) (pc' := 23) (by decide +kernel) (by decide)) ?_
              exact XE.pick [3, 4, 5, 6, 0] rfl (hc760 ((w (s9.1 + 6)), r1268.2))
            · refine XE.go (st_if_eq_f (off := 5) (pc' := 2367) (by decide +kernel) 2369 (by decide) rfl h1276) ?_
              refine XE.go (st_iconst (n := 0) (pc' := 2368) (by decide +kernel) (w_eq (by decide) (by decide)) rfl) ?_
              refine XE.cast (hx762 _) ?_
              exact XE.rt rfl (X_zret (by decide +kernel) rfl (by decide))
          · refine XE.go (st_if_ne_t (off := 15) (pc' := 2369) (by decide +kernel) (by decide) h1273) ?_
            refine XE.go (st_goto (off := 979) (pc' := 3348) (by decide +kernel) (by decide)) ?_
            refine XE.go (st_iinc (j := 4) (n := 6) (pc' := 3351) (by decide +kernel) rfl rfl (by decide) rfl rfl) ?_
            refine XE.go (st_goto (off := (-3328)) (pc' := 23) (by decide +kernel) (by decide)) ?_
            exact XE.pick [3, 4, 5, 6, 0] rfl (hc760 ((w (s9.1 + 6)), r1268.2))
        · refine XE.go (st_icmp_eq_f (off := 5) (pc' := 2350) (by decide +kernel) 2352 (by decide) rfl h1271) ?_
          refine XE.go (st_iconst (n := 0) (pc' := 2351) (by decide +kernel) (w_eq (by decide) (by decide)) rfl) ?_
          refine XE.cast (hx762 _) ?_
          exact XE.rt rfl (X_zret (by decide +kernel) rfl (by decide))
      refine XE.bite (fun h1277 => ?_) (fun h1278 => ?_)
      · refine XE.go (st_tab_in (dflt := 3308) (lo := 0) (hi := 44) (offs := #[196, 292, 372, 428, 484, 540, 596, 652, 708, 752, 820, 912, 1004, 1108, 1176, 1232, 1312, 1368, 1424, 1480, 1536, 1604, 1672, 1752, 1820, 1900, 1980, 2048, 2128, 2196, 2264, 2332, 2412, 2480, 2548, 2640, 2720, 2800, 2892, 2972, 3040, 3108, 3164, 3232, 3295]) (len := 196) (off := 2332) (pc' := 2372) (by decide +kernel) 31 h1277 (by decide) (by decide) (by decide) (by decide)) ?_
        unfold c_L_31
        refine XE.go (st_aload_n (j := 1) (i := 1) (pc' := 2373) (by decide +kernel) rfl rfl (by decide) rfl) ?_
        refine XE.go (st_aload_n (j := 0) (i := 0) (pc' := 2374) (by decide +kernel) rfl rfl (by decide) rfl) ?_
        refine XE.go (st_iload (j := 4) (pc' := 2376) (by decide +kernel) rfl rfl) ?_
        refine XE.go (st_iconst (n := 1) (pc' := 2377) (by decide +kernel) (w_eq (by decide) (by decide)) rfl) ?_
        refine XE.go (st_iadd (pc' := 2378) (by decide +kernel) rfl) ?_
        refine XE.gdb (fun g1279 => ?_)
        refine XE.go (st_sld (pc' := 2379) (by decide +kernel) rfl g1279.1 g1279.2) ?_
        refine XE.go (st_aload_n (j := 0) (i := 0) (pc' := 2380) (by decide +kernel) rfl rfl (by decide) rfl) ?_
        refine XE.go (st_iload (j := 4) (pc' := 2382) (by decide +kernel) rfl rfl) ?_
        refine XE.go (st_iconst (n := 2) (pc' := 2383) (by decide +kernel) (w_eq (by decide) (by decide)) rfl) ?_
        refine XE.go (st_iadd (pc' := 2384) (by decide +kernel) rfl) ?_
        refine XE.gdb (fun g1280 => ?_)
        refine XE.go (st_sld (pc' := 2385) (by decide +kernel) rfl g1280.1 g1280.2) ?_
        refine XE.go (st_aload_n (j := 0) (i := 0) (pc' := 2386) (by decide +kernel) rfl rfl (by decide) rfl) ?_
        refine XE.go (st_iload (j := 4) (pc' := 2388) (by decide +kernel) rfl rfl) ?_
        refine XE.go (st_iconst (n := 3) (pc' := 2389) (by decide +kernel) (w_eq (by decide) (by decide)) rfl) ?_
        refine XE.go (st_iadd (pc' := 2390) (by decide +kernel) rfl) ?_
        refine XE.gdb (fun g1281 => ?_)
        refine XE.go (st_sld (pc' := 2391) (by decide +kernel) rfl g1281.1 g1281.2) ?_
        refine XE.go (st_aload_n (j := 3) (i := 3) (pc' := 2392) (by decide +kernel) rfl rfl (by decide) rfl) ?_
        refine XE.asc ?_
        refine XE.cW1 (pc' := 2395) (st := []) (fun r hr => ct_L_replica r hr) (fun r hr => run_S (st := []) (by decide +kernel) co_L_law_264 (ct_L_replica r hr) rfl rfl (Nat.le_of_ble_eq_true rfl)) rfl rfl (fun r1282 => ?_)
        refine XE.go (st_istore (j := 5) (pc' := 2397) (by decide +kernel)  rfl (by decide) rfl rfl) ?_
        refine XE.go (st_aload_n (j := 2) (i := 2) (pc' := 2398) (by decide +kernel) rfl rfl (by decide) rfl) ?_
        refine XE.go (st_aload_n (j := 0) (i := 0) (pc' := 2399) (by decide +kernel) rfl rfl (by decide) rfl) ?_
        refine XE.go (st_iload (j := 4) (pc' := 2401) (by decide +kernel) rfl rfl) ?_
        refine XE.go (st_iconst (n := 1) (pc' := 2402) (by decide +kernel) (w_eq (by decide) (by decide)) rfl) ?_
        refine XE.go (st_iadd (pc' := 2403) (by decide +kernel) rfl) ?_
        refine XE.gdb (fun g1283 => ?_)
        refine XE.go (st_sld (pc' := 2404) (by decide +kernel) rfl g1283.1 g1283.2) ?_
        refine XE.go (st_aload_n (j := 0) (i := 0) (pc' := 2405) (by decide +kernel) rfl rfl (by decide) rfl) ?_
        refine XE.go (st_iload (j := 4) (pc' := 2407) (by decide +kernel) rfl rfl) ?_
        refine XE.go (st_iconst (n := 2) (pc' := 2408) (by decide +kernel) (w_eq (by decide) (by decide)) rfl) ?_
        refine XE.go (st_iadd (pc' := 2409) (by decide +kernel) rfl) ?_
        refine XE.gdb (fun g1284 => ?_)
        refine XE.go (st_sld (pc' := 2410) (by decide +kernel) rfl g1284.1 g1284.2) ?_
        refine XE.go (st_aload_n (j := 0) (i := 0) (pc' := 2411) (by decide +kernel) rfl rfl (by decide) rfl) ?_
        refine XE.go (st_iload (j := 4) (pc' := 2413) (by decide +kernel) rfl rfl) ?_
        refine XE.go (st_iconst (n := 3) (pc' := 2414) (by decide +kernel) (w_eq (by decide) (by decide)) rfl) ?_
        refine XE.go (st_iadd (pc' := 2415) (by decide +kernel) rfl) ?_
        refine XE.gdb (fun g1285 => ?_)
        refine XE.go (st_sld (pc' := 2416) (by decide +kernel) rfl g1285.1 g1285.2) ?_
        refine XE.asc ?_
        refine XE.cW (pc' := 2419) (st := []) (fun r hr => ct_X11_replica h5 r hr) (fun r hr => run_V (st := []) (by decide +kernel) co_L_law_266 (ct_X11_replica h5 r hr) rfl h5 rfl rfl (Nat.le_of_ble_eq_true rfl)) rfl rfl (fun r1286 => ?_)
        refine XE.go (st_istore (j := 6) (pc' := 2421) (by decide +kernel)  rfl (by decide) rfl rfl) ?_
        refine XE.go (st_aload_n (j := 2) (i := 2) (pc' := 2422) (by decide +kernel) rfl rfl (by decide) rfl) ?_
        refine XE.asc ?_
        refine XE.cP (pc' := 2425) (st := []) (fun r hr => ct_X11_thrown h5 r hr) (fun r hr => run_V (st := []) (by decide +kernel) co_L_law_165 (ct_X11_thrown h5 r hr) rfl h5 rfl rfl (Nat.le_of_ble_eq_true rfl)) rfl rfl (fun r1287 => ?_)
        refine XE.go (st_iload (j := 5) (pc' := 2427) (by decide +kernel) rfl rfl) ?_
        refine XE.bite (fun h1288 => ?_) (fun h1289 => ?_)
        · refine XE.go (st_icmp_eq_t (off := 5) (pc' := 2432) (by decide +kernel) (by decide) h1288) ?_
          refine XE.go (st_iload (j := 5) (pc' := 2434) (by decide +kernel) rfl rfl) ?_
          refine XE.bite (fun h1290 => ?_) (fun h1291 => ?_)
          · refine XE.go (st_if_ne_f (off := 15) (pc' := 2437) (by decide +kernel) 2449 (by decide) rfl (not_not_intro h1290)) ?_
            refine XE.go (st_aload_n (j := 3) (i := 3) (pc' := 2438) (by decide +kernel) rfl rfl (by decide) rfl) ?_
            refine XE.go (st_iconst (n := 0) (pc' := 2439) (by decide +kernel) (w_eq (by decide) (by decide)) rfl) ?_
            refine XE.gdb (fun g1292 => ?_)
            refine XE.go (st_ald (k := 15) (tp := 2) (pc' := 2440) (by decide +kernel) rfl ak_15 rfl (by decide) rfl (Or.inr (Or.inr (Or.inl ⟨rfl, rfl⟩))) g1292.1 g1292.2.1 g1292.2.2) ?_
            refine XE.go (st_iload (j := 6) (pc' := 2442) (by decide +kernel) rfl rfl) ?_
            refine XE.go (st_i2l (pc' := 2443) (by decide +kernel) rfl) ?_
            refine XE.go (st_lcmp (pc' := 2444) (by decide +kernel) rfl) ?_
            refine XE.bite (fun h1293 => ?_) (fun h1294 => ?_)
            · refine XE.go (st_if_eq_t (off := 5) (pc' := 2449) (by decide +kernel) (by decide) h1293) ?_
              refine XE.go (st_goto (off := 899) (pc' := 3348) (by decide +kernel) (by decide)) ?_
              refine XE.go (st_iinc (j := 4) (n := 6) (pc' := 3351) (by decide +kernel) rfl rfl (by decide) rfl rfl) ?_
              refine XE.go (st_goto (off := (-3328)) (pc' := 23) (by decide +kernel) (by decide)) ?_
              exact XE.pick [3, 4, 5, 6, 0] rfl (hc760 ((w (s9.1 + 6)), r1286.2))
            · refine XE.go (st_if_eq_f (off := 5) (pc' := 2447) (by decide +kernel) 2449 (by decide) rfl h1294) ?_
              refine XE.go (st_iconst (n := 0) (pc' := 2448) (by decide +kernel) (w_eq (by decide) (by decide)) rfl) ?_
              refine XE.cast (hx762 _) ?_
              exact XE.rt rfl (X_zret (by decide +kernel) rfl (by decide))
          · refine XE.go (st_if_ne_t (off := 15) (pc' := 2449) (by decide +kernel) (by decide) h1291) ?_
            refine XE.go (st_goto (off := 899) (pc' := 3348) (by decide +kernel) (by decide)) ?_
            refine XE.go (st_iinc (j := 4) (n := 6) (pc' := 3351) (by decide +kernel) rfl rfl (by decide) rfl rfl) ?_
            refine XE.go (st_goto (off := (-3328)) (pc' := 23) (by decide +kernel) (by decide)) ?_
            exact XE.pick [3, 4, 5, 6, 0] rfl (hc760 ((w (s9.1 + 6)), r1286.2))
        · refine XE.go (st_icmp_eq_f (off := 5) (pc' := 2430) (by decide +kernel) 2432 (by decide) rfl h1289) ?_
          refine XE.go (st_iconst (n := 0) (pc' := 2431) (by decide +kernel) (w_eq (by decide) (by decide)) rfl) ?_
          refine XE.cast (hx762 _) ?_
          exact XE.rt rfl (X_zret (by decide +kernel) rfl (by decide))
      refine XE.bite (fun h1295 => ?_) (fun h1296 => ?_)
      · refine XE.go (st_tab_in (dflt := 3308) (lo := 0) (hi := 44) (offs := #[196, 292, 372, 428, 484, 540, 596, 652, 708, 752, 820, 912, 1004, 1108, 1176, 1232, 1312, 1368, 1424, 1480, 1536, 1604, 1672, 1752, 1820, 1900, 1980, 2048, 2128, 2196, 2264, 2332, 2412, 2480, 2548, 2640, 2720, 2800, 2892, 2972, 3040, 3108, 3164, 3232, 3295]) (len := 196) (off := 2412) (pc' := 2452) (by decide +kernel) 32 h1295 (by decide) (by decide) (by decide) (by decide)) ?_
        unfold c_L_32
        refine XE.go (st_aload_n (j := 1) (i := 1) (pc' := 2453) (by decide +kernel) rfl rfl (by decide) rfl) ?_
        refine XE.go (st_aload_n (j := 0) (i := 0) (pc' := 2454) (by decide +kernel) rfl rfl (by decide) rfl) ?_
        refine XE.go (st_iload (j := 4) (pc' := 2456) (by decide +kernel) rfl rfl) ?_
        refine XE.go (st_iconst (n := 1) (pc' := 2457) (by decide +kernel) (w_eq (by decide) (by decide)) rfl) ?_
        refine XE.go (st_iadd (pc' := 2458) (by decide +kernel) rfl) ?_
        refine XE.gdb (fun g1297 => ?_)
        refine XE.go (st_sld (pc' := 2459) (by decide +kernel) rfl g1297.1 g1297.2) ?_
        refine XE.go (st_aload_n (j := 0) (i := 0) (pc' := 2460) (by decide +kernel) rfl rfl (by decide) rfl) ?_
        refine XE.go (st_iload (j := 4) (pc' := 2462) (by decide +kernel) rfl rfl) ?_
        refine XE.go (st_iconst (n := 2) (pc' := 2463) (by decide +kernel) (w_eq (by decide) (by decide)) rfl) ?_
        refine XE.go (st_iadd (pc' := 2464) (by decide +kernel) rfl) ?_
        refine XE.gdb (fun g1298 => ?_)
        refine XE.go (st_sld (pc' := 2465) (by decide +kernel) rfl g1298.1 g1298.2) ?_
        refine XE.go (st_aload_n (j := 3) (i := 3) (pc' := 2466) (by decide +kernel) rfl rfl (by decide) rfl) ?_
        refine XE.asc ?_
        refine XE.cW1 (pc' := 2469) (st := []) (fun r hr => ct_L_offsetAt r hr) (fun r hr => run_S (st := []) (by decide +kernel) co_L_law_267 (ct_L_offsetAt r hr) rfl rfl (Nat.le_of_ble_eq_true rfl)) rfl rfl (fun r1299 => ?_)
        refine XE.go (st_istore (j := 5) (pc' := 2471) (by decide +kernel)  rfl (by decide) rfl rfl) ?_
        refine XE.go (st_aload_n (j := 2) (i := 2) (pc' := 2472) (by decide +kernel) rfl rfl (by decide) rfl) ?_
        refine XE.go (st_aload_n (j := 0) (i := 0) (pc' := 2473) (by decide +kernel) rfl rfl (by decide) rfl) ?_
        refine XE.go (st_iload (j := 4) (pc' := 2475) (by decide +kernel) rfl rfl) ?_
        refine XE.go (st_iconst (n := 1) (pc' := 2476) (by decide +kernel) (w_eq (by decide) (by decide)) rfl) ?_
        refine XE.go (st_iadd (pc' := 2477) (by decide +kernel) rfl) ?_
        refine XE.gdb (fun g1300 => ?_)
        refine XE.go (st_sld (pc' := 2478) (by decide +kernel) rfl g1300.1 g1300.2) ?_
        refine XE.go (st_aload_n (j := 0) (i := 0) (pc' := 2479) (by decide +kernel) rfl rfl (by decide) rfl) ?_
        refine XE.go (st_iload (j := 4) (pc' := 2481) (by decide +kernel) rfl rfl) ?_
        refine XE.go (st_iconst (n := 2) (pc' := 2482) (by decide +kernel) (w_eq (by decide) (by decide)) rfl) ?_
        refine XE.go (st_iadd (pc' := 2483) (by decide +kernel) rfl) ?_
        refine XE.gdb (fun g1301 => ?_)
        refine XE.go (st_sld (pc' := 2484) (by decide +kernel) rfl g1301.1 g1301.2) ?_
        refine XE.asc ?_
        refine XE.cW (pc' := 2487) (st := []) (fun r hr => ct_X11_offsetAt h5 r hr) (fun r hr => run_V (st := []) (by decide +kernel) co_L_law_269 (ct_X11_offsetAt h5 r hr) rfl h5 rfl rfl (Nat.le_of_ble_eq_true rfl)) rfl rfl (fun r1302 => ?_)
        refine XE.go (st_istore (j := 6) (pc' := 2489) (by decide +kernel)  rfl (by decide) rfl rfl) ?_
        refine XE.go (st_aload_n (j := 2) (i := 2) (pc' := 2490) (by decide +kernel) rfl rfl (by decide) rfl) ?_
        refine XE.asc ?_
        refine XE.cP (pc' := 2493) (st := []) (fun r hr => ct_X11_thrown h5 r hr) (fun r hr => run_V (st := []) (by decide +kernel) co_L_law_165 (ct_X11_thrown h5 r hr) rfl h5 rfl rfl (Nat.le_of_ble_eq_true rfl)) rfl rfl (fun r1303 => ?_)
        refine XE.go (st_iload (j := 5) (pc' := 2495) (by decide +kernel) rfl rfl) ?_
        refine XE.bite (fun h1304 => ?_) (fun h1305 => ?_)
        · refine XE.go (st_icmp_eq_t (off := 5) (pc' := 2500) (by decide +kernel) (by decide) h1304) ?_
          refine XE.go (st_iload (j := 5) (pc' := 2502) (by decide +kernel) rfl rfl) ?_
          refine XE.bite (fun h1306 => ?_) (fun h1307 => ?_)
          · refine XE.go (st_if_ne_f (off := 15) (pc' := 2505) (by decide +kernel) 2517 (by decide) rfl (not_not_intro h1306)) ?_
            refine XE.go (st_aload_n (j := 3) (i := 3) (pc' := 2506) (by decide +kernel) rfl rfl (by decide) rfl) ?_
            refine XE.go (st_iconst (n := 0) (pc' := 2507) (by decide +kernel) (w_eq (by decide) (by decide)) rfl) ?_
            refine XE.gdb (fun g1308 => ?_)
            refine XE.go (st_ald (k := 15) (tp := 2) (pc' := 2508) (by decide +kernel) rfl ak_15 rfl (by decide) rfl (Or.inr (Or.inr (Or.inl ⟨rfl, rfl⟩))) g1308.1 g1308.2.1 g1308.2.2) ?_
            refine XE.go (st_iload (j := 6) (pc' := 2510) (by decide +kernel) rfl rfl) ?_
            refine XE.go (st_i2l (pc' := 2511) (by decide +kernel) rfl) ?_
            refine XE.go (st_lcmp (pc' := 2512) (by decide +kernel) rfl) ?_
            refine XE.bite (fun h1309 => ?_) (fun h1310 => ?_)
            · refine XE.go (st_if_eq_t (off := 5) (pc' := 2517) (by decide +kernel) (by decide) h1309) ?_
              refine XE.go (st_goto (off := 831) (pc' := 3348) (by decide +kernel) (by decide)) ?_
              refine XE.go (st_iinc (j := 4) (n := 6) (pc' := 3351) (by decide +kernel) rfl rfl (by decide) rfl rfl) ?_
              refine XE.go (st_goto (off := (-3328)) (pc' := 23) (by decide +kernel) (by decide)) ?_
              exact XE.pick [3, 4, 5, 6, 0] rfl (hc760 ((w (s9.1 + 6)), r1302.2))
            · refine XE.go (st_if_eq_f (off := 5) (pc' := 2515) (by decide +kernel) 2517 (by decide) rfl h1310) ?_
              refine XE.go (st_iconst (n := 0) (pc' := 2516) (by decide +kernel) (w_eq (by decide) (by decide)) rfl) ?_
              refine XE.cast (hx762 _) ?_
              exact XE.rt rfl (X_zret (by decide +kernel) rfl (by decide))
          · refine XE.go (st_if_ne_t (off := 15) (pc' := 2517) (by decide +kernel) (by decide) h1307) ?_
            refine XE.go (st_goto (off := 831) (pc' := 3348) (by decide +kernel) (by decide)) ?_
            refine XE.go (st_iinc (j := 4) (n := 6) (pc' := 3351) (by decide +kernel) rfl rfl (by decide) rfl rfl) ?_
            refine XE.go (st_goto (off := (-3328)) (pc' := 23) (by decide +kernel) (by decide)) ?_
            exact XE.pick [3, 4, 5, 6, 0] rfl (hc760 ((w (s9.1 + 6)), r1302.2))
        · refine XE.go (st_icmp_eq_f (off := 5) (pc' := 2498) (by decide +kernel) 2500 (by decide) rfl h1305) ?_
          refine XE.go (st_iconst (n := 0) (pc' := 2499) (by decide +kernel) (w_eq (by decide) (by decide)) rfl) ?_
          refine XE.cast (hx762 _) ?_
          exact XE.rt rfl (X_zret (by decide +kernel) rfl (by decide))
      refine XE.bite (fun h1311 => ?_) (fun h1312 => ?_)
      · refine XE.go (st_tab_in (dflt := 3308) (lo := 0) (hi := 44) (offs := #[196, 292, 372, 428, 484, 540, 596, 652, 708, 752, 820, 912, 1004, 1108, 1176, 1232, 1312, 1368, 1424, 1480, 1536, 1604, 1672, 1752, 1820, 1900, 1980, 2048, 2128, 2196, 2264, 2332, 2412, 2480, 2548, 2640, 2720, 2800, 2892, 2972, 3040, 3108, 3164, 3232, 3295]) (len := 196) (off := 2480) (pc' := 2520) (by decide +kernel) 33 h1311 (by decide) (by decide) (by decide) (by decide)) ?_
        unfold c_L_33
        refine XE.go (st_aload_n (j := 1) (i := 1) (pc' := 2521) (by decide +kernel) rfl rfl (by decide) rfl) ?_
        refine XE.go (st_aload_n (j := 0) (i := 0) (pc' := 2522) (by decide +kernel) rfl rfl (by decide) rfl) ?_
        refine XE.go (st_iload (j := 4) (pc' := 2524) (by decide +kernel) rfl rfl) ?_
        refine XE.go (st_iconst (n := 1) (pc' := 2525) (by decide +kernel) (w_eq (by decide) (by decide)) rfl) ?_
        refine XE.go (st_iadd (pc' := 2526) (by decide +kernel) rfl) ?_
        refine XE.gdb (fun g1313 => ?_)
        refine XE.go (st_sld (pc' := 2527) (by decide +kernel) rfl g1313.1 g1313.2) ?_
        refine XE.go (st_aload_n (j := 0) (i := 0) (pc' := 2528) (by decide +kernel) rfl rfl (by decide) rfl) ?_
        refine XE.go (st_iload (j := 4) (pc' := 2530) (by decide +kernel) rfl rfl) ?_
        refine XE.go (st_iconst (n := 2) (pc' := 2531) (by decide +kernel) (w_eq (by decide) (by decide)) rfl) ?_
        refine XE.go (st_iadd (pc' := 2532) (by decide +kernel) rfl) ?_
        refine XE.gdb (fun g1314 => ?_)
        refine XE.go (st_sld (pc' := 2533) (by decide +kernel) rfl g1314.1 g1314.2) ?_
        refine XE.go (st_aload_n (j := 3) (i := 3) (pc' := 2534) (by decide +kernel) rfl rfl (by decide) rfl) ?_
        refine XE.asc ?_
        refine XE.cW1 (pc' := 2537) (st := []) (fun r hr => ct_L_value r hr) (fun r hr => run_S (st := []) (by decide +kernel) co_L_law_270 (ct_L_value r hr) rfl rfl (Nat.le_of_ble_eq_true rfl)) rfl rfl (fun r1315 => ?_)
        refine XE.go (st_istore (j := 5) (pc' := 2539) (by decide +kernel)  rfl (by decide) rfl rfl) ?_
        refine XE.go (st_aload_n (j := 2) (i := 2) (pc' := 2540) (by decide +kernel) rfl rfl (by decide) rfl) ?_
        refine XE.go (st_aload_n (j := 0) (i := 0) (pc' := 2541) (by decide +kernel) rfl rfl (by decide) rfl) ?_
        refine XE.go (st_iload (j := 4) (pc' := 2543) (by decide +kernel) rfl rfl) ?_
        refine XE.go (st_iconst (n := 1) (pc' := 2544) (by decide +kernel) (w_eq (by decide) (by decide)) rfl) ?_
        refine XE.go (st_iadd (pc' := 2545) (by decide +kernel) rfl) ?_
        refine XE.gdb (fun g1316 => ?_)
        refine XE.go (st_sld (pc' := 2546) (by decide +kernel) rfl g1316.1 g1316.2) ?_
        refine XE.go (st_aload_n (j := 0) (i := 0) (pc' := 2547) (by decide +kernel) rfl rfl (by decide) rfl) ?_
        refine XE.go (st_iload (j := 4) (pc' := 2549) (by decide +kernel) rfl rfl) ?_
        refine XE.go (st_iconst (n := 2) (pc' := 2550) (by decide +kernel) (w_eq (by decide) (by decide)) rfl) ?_
        refine XE.go (st_iadd (pc' := 2551) (by decide +kernel) rfl) ?_
        refine XE.gdb (fun g1317 => ?_)
        refine XE.go (st_sld (pc' := 2552) (by decide +kernel) rfl g1317.1 g1317.2) ?_
        refine XE.asc ?_
        refine XE.cW (pc' := 2555) (st := []) (fun r hr => ct_X11_value h5 r hr) (fun r hr => run_V (st := []) (by decide +kernel) co_L_law_272 (ct_X11_value h5 r hr) rfl h5 rfl rfl (Nat.le_of_ble_eq_true rfl)) rfl rfl (fun r1318 => ?_)
        refine XE.go (st_istore (j := 6) (pc' := 2557) (by decide +kernel)  rfl (by decide) rfl rfl) ?_
        refine XE.go (st_aload_n (j := 2) (i := 2) (pc' := 2558) (by decide +kernel) rfl rfl (by decide) rfl) ?_
        refine XE.asc ?_
        refine XE.cP (pc' := 2561) (st := []) (fun r hr => ct_X11_thrown h5 r hr) (fun r hr => run_V (st := []) (by decide +kernel) co_L_law_165 (ct_X11_thrown h5 r hr) rfl h5 rfl rfl (Nat.le_of_ble_eq_true rfl)) rfl rfl (fun r1319 => ?_)
        refine XE.go (st_iload (j := 5) (pc' := 2563) (by decide +kernel) rfl rfl) ?_
        refine XE.bite (fun h1320 => ?_) (fun h1321 => ?_)
        · refine XE.go (st_icmp_eq_t (off := 5) (pc' := 2568) (by decide +kernel) (by decide) h1320) ?_
          refine XE.go (st_iload (j := 5) (pc' := 2570) (by decide +kernel) rfl rfl) ?_
          refine XE.bite (fun h1322 => ?_) (fun h1323 => ?_)
          · refine XE.go (st_if_ne_f (off := 15) (pc' := 2573) (by decide +kernel) 2585 (by decide) rfl (not_not_intro h1322)) ?_
            refine XE.go (st_aload_n (j := 3) (i := 3) (pc' := 2574) (by decide +kernel) rfl rfl (by decide) rfl) ?_
            refine XE.go (st_iconst (n := 0) (pc' := 2575) (by decide +kernel) (w_eq (by decide) (by decide)) rfl) ?_
            refine XE.gdb (fun g1324 => ?_)
            refine XE.go (st_ald (k := 15) (tp := 2) (pc' := 2576) (by decide +kernel) rfl ak_15 rfl (by decide) rfl (Or.inr (Or.inr (Or.inl ⟨rfl, rfl⟩))) g1324.1 g1324.2.1 g1324.2.2) ?_
            refine XE.go (st_iload (j := 6) (pc' := 2578) (by decide +kernel) rfl rfl) ?_
            refine XE.go (st_i2l (pc' := 2579) (by decide +kernel) rfl) ?_
            refine XE.go (st_lcmp (pc' := 2580) (by decide +kernel) rfl) ?_
            refine XE.bite (fun h1325 => ?_) (fun h1326 => ?_)
            · refine XE.go (st_if_eq_t (off := 5) (pc' := 2585) (by decide +kernel) (by decide) h1325) ?_
              refine XE.go (st_goto (off := 763) (pc' := 3348) (by decide +kernel) (by decide)) ?_
              refine XE.go (st_iinc (j := 4) (n := 6) (pc' := 3351) (by decide +kernel) rfl rfl (by decide) rfl rfl) ?_
              refine XE.go (st_goto (off := (-3328)) (pc' := 23) (by decide +kernel) (by decide)) ?_
              exact XE.pick [3, 4, 5, 6, 0] rfl (hc760 ((w (s9.1 + 6)), r1318.2))
            · refine XE.go (st_if_eq_f (off := 5) (pc' := 2583) (by decide +kernel) 2585 (by decide) rfl h1326) ?_
              refine XE.go (st_iconst (n := 0) (pc' := 2584) (by decide +kernel) (w_eq (by decide) (by decide)) rfl) ?_
              refine XE.cast (hx762 _) ?_
              exact XE.rt rfl (X_zret (by decide +kernel) rfl (by decide))
          · refine XE.go (st_if_ne_t (off := 15) (pc' := 2585) (by decide +kernel) (by decide) h1323) ?_
            refine XE.go (st_goto (off := 763) (pc' := 3348) (by decide +kernel) (by decide)) ?_
            refine XE.go (st_iinc (j := 4) (n := 6) (pc' := 3351) (by decide +kernel) rfl rfl (by decide) rfl rfl) ?_
            refine XE.go (st_goto (off := (-3328)) (pc' := 23) (by decide +kernel) (by decide)) ?_
            exact XE.pick [3, 4, 5, 6, 0] rfl (hc760 ((w (s9.1 + 6)), r1318.2))
        · refine XE.go (st_icmp_eq_f (off := 5) (pc' := 2566) (by decide +kernel) 2568 (by decide) rfl h1321) ?_
          refine XE.go (st_iconst (n := 0) (pc' := 2567) (by decide +kernel) (w_eq (by decide) (by decide)) rfl) ?_
          refine XE.cast (hx762 _) ?_
          exact XE.rt rfl (X_zret (by decide +kernel) rfl (by decide))
      refine XE.bite (fun h1327 => ?_) (fun h1328 => ?_)
      · refine XE.go (st_tab_in (dflt := 3308) (lo := 0) (hi := 44) (offs := #[196, 292, 372, 428, 484, 540, 596, 652, 708, 752, 820, 912, 1004, 1108, 1176, 1232, 1312, 1368, 1424, 1480, 1536, 1604, 1672, 1752, 1820, 1900, 1980, 2048, 2128, 2196, 2264, 2332, 2412, 2480, 2548, 2640, 2720, 2800, 2892, 2972, 3040, 3108, 3164, 3232, 3295]) (len := 196) (off := 2548) (pc' := 2588) (by decide +kernel) 34 h1327 (by decide) (by decide) (by decide) (by decide)) ?_
        unfold c_L_34
        refine XE.go (st_aload_n (j := 1) (i := 1) (pc' := 2589) (by decide +kernel) rfl rfl (by decide) rfl) ?_
        refine XE.go (st_aload_n (j := 0) (i := 0) (pc' := 2590) (by decide +kernel) rfl rfl (by decide) rfl) ?_
        refine XE.go (st_iload (j := 4) (pc' := 2592) (by decide +kernel) rfl rfl) ?_
        refine XE.go (st_iconst (n := 1) (pc' := 2593) (by decide +kernel) (w_eq (by decide) (by decide)) rfl) ?_
        refine XE.go (st_iadd (pc' := 2594) (by decide +kernel) rfl) ?_
        refine XE.gdb (fun g1329 => ?_)
        refine XE.go (st_sld (pc' := 2595) (by decide +kernel) rfl g1329.1 g1329.2) ?_
        refine XE.go (st_aload_n (j := 0) (i := 0) (pc' := 2596) (by decide +kernel) rfl rfl (by decide) rfl) ?_
        refine XE.go (st_iload (j := 4) (pc' := 2598) (by decide +kernel) rfl rfl) ?_
        refine XE.go (st_iconst (n := 2) (pc' := 2599) (by decide +kernel) (w_eq (by decide) (by decide)) rfl) ?_
        refine XE.go (st_iadd (pc' := 2600) (by decide +kernel) rfl) ?_
        refine XE.gdb (fun g1330 => ?_)
        refine XE.go (st_sld (pc' := 2601) (by decide +kernel) rfl g1330.1 g1330.2) ?_
        refine XE.go (st_aload_n (j := 0) (i := 0) (pc' := 2602) (by decide +kernel) rfl rfl (by decide) rfl) ?_
        refine XE.go (st_iload (j := 4) (pc' := 2604) (by decide +kernel) rfl rfl) ?_
        refine XE.go (st_iconst (n := 3) (pc' := 2605) (by decide +kernel) (w_eq (by decide) (by decide)) rfl) ?_
        refine XE.go (st_iadd (pc' := 2606) (by decide +kernel) rfl) ?_
        refine XE.gdb (fun g1331 => ?_)
        refine XE.go (st_sld (pc' := 2607) (by decide +kernel) rfl g1331.1 g1331.2) ?_
        refine XE.go (st_aload_n (j := 0) (i := 0) (pc' := 2608) (by decide +kernel) rfl rfl (by decide) rfl) ?_
        refine XE.go (st_iload (j := 4) (pc' := 2610) (by decide +kernel) rfl rfl) ?_
        refine XE.go (st_iconst (n := 4) (pc' := 2611) (by decide +kernel) (w_eq (by decide) (by decide)) rfl) ?_
        refine XE.go (st_iadd (pc' := 2612) (by decide +kernel) rfl) ?_
        refine XE.gdb (fun g1332 => ?_)
        refine XE.go (st_sld (pc' := 2613) (by decide +kernel) rfl g1332.1 g1332.2) ?_
        refine XE.go (st_aload_n (j := 3) (i := 3) (pc' := 2614) (by decide +kernel) rfl rfl (by decide) rfl) ?_
        refine XE.asc ?_
        refine XE.cW1 (pc' := 2617) (st := []) (fun r hr => ct_L_sum r hr) (fun r hr => run_S (st := []) (by decide +kernel) co_L_law_273 (ct_L_sum r hr) rfl rfl (Nat.le_of_ble_eq_true rfl)) rfl rfl (fun r1333 => ?_)
        refine XE.go (st_istore (j := 5) (pc' := 2619) (by decide +kernel)  rfl (by decide) rfl rfl) ?_
        refine XE.go (st_aload_n (j := 2) (i := 2) (pc' := 2620) (by decide +kernel) rfl rfl (by decide) rfl) ?_
        refine XE.go (st_aload_n (j := 0) (i := 0) (pc' := 2621) (by decide +kernel) rfl rfl (by decide) rfl) ?_
        refine XE.go (st_iload (j := 4) (pc' := 2623) (by decide +kernel) rfl rfl) ?_
        refine XE.go (st_iconst (n := 1) (pc' := 2624) (by decide +kernel) (w_eq (by decide) (by decide)) rfl) ?_
        refine XE.go (st_iadd (pc' := 2625) (by decide +kernel) rfl) ?_
        refine XE.gdb (fun g1334 => ?_)
        refine XE.go (st_sld (pc' := 2626) (by decide +kernel) rfl g1334.1 g1334.2) ?_
        refine XE.go (st_aload_n (j := 0) (i := 0) (pc' := 2627) (by decide +kernel) rfl rfl (by decide) rfl) ?_
        refine XE.go (st_iload (j := 4) (pc' := 2629) (by decide +kernel) rfl rfl) ?_
        refine XE.go (st_iconst (n := 2) (pc' := 2630) (by decide +kernel) (w_eq (by decide) (by decide)) rfl) ?_
        refine XE.go (st_iadd (pc' := 2631) (by decide +kernel) rfl) ?_
        refine XE.gdb (fun g1335 => ?_)
        refine XE.go (st_sld (pc' := 2632) (by decide +kernel) rfl g1335.1 g1335.2) ?_
        refine XE.go (st_aload_n (j := 0) (i := 0) (pc' := 2633) (by decide +kernel) rfl rfl (by decide) rfl) ?_
        refine XE.go (st_iload (j := 4) (pc' := 2635) (by decide +kernel) rfl rfl) ?_
        refine XE.go (st_iconst (n := 3) (pc' := 2636) (by decide +kernel) (w_eq (by decide) (by decide)) rfl) ?_
        refine XE.go (st_iadd (pc' := 2637) (by decide +kernel) rfl) ?_
        refine XE.gdb (fun g1336 => ?_)
        refine XE.go (st_sld (pc' := 2638) (by decide +kernel) rfl g1336.1 g1336.2) ?_
        refine XE.go (st_aload_n (j := 0) (i := 0) (pc' := 2639) (by decide +kernel) rfl rfl (by decide) rfl) ?_
        refine XE.go (st_iload (j := 4) (pc' := 2641) (by decide +kernel) rfl rfl) ?_
        refine XE.go (st_iconst (n := 4) (pc' := 2642) (by decide +kernel) (w_eq (by decide) (by decide)) rfl) ?_
        refine XE.go (st_iadd (pc' := 2643) (by decide +kernel) rfl) ?_
        refine XE.gdb (fun g1337 => ?_)
        refine XE.go (st_sld (pc' := 2644) (by decide +kernel) rfl g1337.1 g1337.2) ?_
        refine XE.asc ?_
        refine XE.cW (pc' := 2647) (st := []) (fun r hr => ct_X11_sum h5 r hr) (fun r hr => run_V (st := []) (by decide +kernel) co_L_law_275 (ct_X11_sum h5 r hr) rfl h5 rfl rfl (Nat.le_of_ble_eq_true rfl)) rfl rfl (fun r1338 => ?_)
        refine XE.go (st_istore (j := 6) (pc' := 2649) (by decide +kernel)  rfl (by decide) rfl rfl) ?_
        refine XE.go (st_aload_n (j := 2) (i := 2) (pc' := 2650) (by decide +kernel) rfl rfl (by decide) rfl) ?_
        refine XE.asc ?_
        refine XE.cP (pc' := 2653) (st := []) (fun r hr => ct_X11_thrown h5 r hr) (fun r hr => run_V (st := []) (by decide +kernel) co_L_law_165 (ct_X11_thrown h5 r hr) rfl h5 rfl rfl (Nat.le_of_ble_eq_true rfl)) rfl rfl (fun r1339 => ?_)
        refine XE.go (st_iload (j := 5) (pc' := 2655) (by decide +kernel) rfl rfl) ?_
        refine XE.bite (fun h1340 => ?_) (fun h1341 => ?_)
        · refine XE.go (st_icmp_eq_t (off := 5) (pc' := 2660) (by decide +kernel) (by decide) h1340) ?_
          refine XE.go (st_iload (j := 5) (pc' := 2662) (by decide +kernel) rfl rfl) ?_
          refine XE.bite (fun h1342 => ?_) (fun h1343 => ?_)
          · refine XE.go (st_if_ne_f (off := 15) (pc' := 2665) (by decide +kernel) 2677 (by decide) rfl (not_not_intro h1342)) ?_
            refine XE.go (st_aload_n (j := 3) (i := 3) (pc' := 2666) (by decide +kernel) rfl rfl (by decide) rfl) ?_
            refine XE.go (st_iconst (n := 0) (pc' := 2667) (by decide +kernel) (w_eq (by decide) (by decide)) rfl) ?_
            refine XE.gdb (fun g1344 => ?_)
            refine XE.go (st_ald (k := 15) (tp := 2) (pc' := 2668) (by decide +kernel) rfl ak_15 rfl (by decide) rfl (Or.inr (Or.inr (Or.inl ⟨rfl, rfl⟩))) g1344.1 g1344.2.1 g1344.2.2) ?_
            refine XE.go (st_iload (j := 6) (pc' := 2670) (by decide +kernel) rfl rfl) ?_
            refine XE.go (st_i2l (pc' := 2671) (by decide +kernel) rfl) ?_
            refine XE.go (st_lcmp (pc' := 2672) (by decide +kernel) rfl) ?_
            refine XE.bite (fun h1345 => ?_) (fun h1346 => ?_)
            · refine XE.go (st_if_eq_t (off := 5) (pc' := 2677) (by decide +kernel) (by decide) h1345) ?_
              refine XE.go (st_goto (off := 671) (pc' := 3348) (by decide +kernel) (by decide)) ?_
              refine XE.go (st_iinc (j := 4) (n := 6) (pc' := 3351) (by decide +kernel) rfl rfl (by decide) rfl rfl) ?_
              refine XE.go (st_goto (off := (-3328)) (pc' := 23) (by decide +kernel) (by decide)) ?_
              exact XE.pick [3, 4, 5, 6, 0] rfl (hc760 ((w (s9.1 + 6)), r1338.2))
            · refine XE.go (st_if_eq_f (off := 5) (pc' := 2675) (by decide +kernel) 2677 (by decide) rfl h1346) ?_
              refine XE.go (st_iconst (n := 0) (pc' := 2676) (by decide +kernel) (w_eq (by decide) (by decide)) rfl) ?_
              refine XE.cast (hx762 _) ?_
              exact XE.rt rfl (X_zret (by decide +kernel) rfl (by decide))
          · refine XE.go (st_if_ne_t (off := 15) (pc' := 2677) (by decide +kernel) (by decide) h1343) ?_
            refine XE.go (st_goto (off := 671) (pc' := 3348) (by decide +kernel) (by decide)) ?_
            refine XE.go (st_iinc (j := 4) (n := 6) (pc' := 3351) (by decide +kernel) rfl rfl (by decide) rfl rfl) ?_
            refine XE.go (st_goto (off := (-3328)) (pc' := 23) (by decide +kernel) (by decide)) ?_
            exact XE.pick [3, 4, 5, 6, 0] rfl (hc760 ((w (s9.1 + 6)), r1338.2))
        · refine XE.go (st_icmp_eq_f (off := 5) (pc' := 2658) (by decide +kernel) 2660 (by decide) rfl h1341) ?_
          refine XE.go (st_iconst (n := 0) (pc' := 2659) (by decide +kernel) (w_eq (by decide) (by decide)) rfl) ?_
          refine XE.cast (hx762 _) ?_
          exact XE.rt rfl (X_zret (by decide +kernel) rfl (by decide))
      refine XE.bite (fun h1347 => ?_) (fun h1348 => ?_)
      · refine XE.go (st_tab_in (dflt := 3308) (lo := 0) (hi := 44) (offs := #[196, 292, 372, 428, 484, 540, 596, 652, 708, 752, 820, 912, 1004, 1108, 1176, 1232, 1312, 1368, 1424, 1480, 1536, 1604, 1672, 1752, 1820, 1900, 1980, 2048, 2128, 2196, 2264, 2332, 2412, 2480, 2548, 2640, 2720, 2800, 2892, 2972, 3040, 3108, 3164, 3232, 3295]) (len := 196) (off := 2640) (pc' := 2680) (by decide +kernel) 35 h1347 (by decide) (by decide) (by decide) (by decide)) ?_
        unfold c_L_35
        refine XE.go (st_aload_n (j := 1) (i := 1) (pc' := 2681) (by decide +kernel) rfl rfl (by decide) rfl) ?_
        refine XE.go (st_aload_n (j := 0) (i := 0) (pc' := 2682) (by decide +kernel) rfl rfl (by decide) rfl) ?_
        refine XE.go (st_iload (j := 4) (pc' := 2684) (by decide +kernel) rfl rfl) ?_
        refine XE.go (st_iconst (n := 1) (pc' := 2685) (by decide +kernel) (w_eq (by decide) (by decide)) rfl) ?_
        refine XE.go (st_iadd (pc' := 2686) (by decide +kernel) rfl) ?_
        refine XE.gdb (fun g1349 => ?_)
        refine XE.go (st_sld (pc' := 2687) (by decide +kernel) rfl g1349.1 g1349.2) ?_
        refine XE.go (st_aload_n (j := 0) (i := 0) (pc' := 2688) (by decide +kernel) rfl rfl (by decide) rfl) ?_
        refine XE.go (st_iload (j := 4) (pc' := 2690) (by decide +kernel) rfl rfl) ?_
        refine XE.go (st_iconst (n := 2) (pc' := 2691) (by decide +kernel) (w_eq (by decide) (by decide)) rfl) ?_
        refine XE.go (st_iadd (pc' := 2692) (by decide +kernel) rfl) ?_
        refine XE.gdb (fun g1350 => ?_)
        refine XE.go (st_sld (pc' := 2693) (by decide +kernel) rfl g1350.1 g1350.2) ?_
        refine XE.go (st_aload_n (j := 0) (i := 0) (pc' := 2694) (by decide +kernel) rfl rfl (by decide) rfl) ?_
        refine XE.go (st_iload (j := 4) (pc' := 2696) (by decide +kernel) rfl rfl) ?_
        refine XE.go (st_iconst (n := 3) (pc' := 2697) (by decide +kernel) (w_eq (by decide) (by decide)) rfl) ?_
        refine XE.go (st_iadd (pc' := 2698) (by decide +kernel) rfl) ?_
        refine XE.gdb (fun g1351 => ?_)
        refine XE.go (st_sld (pc' := 2699) (by decide +kernel) rfl g1351.1 g1351.2) ?_
        refine XE.go (st_aload_n (j := 3) (i := 3) (pc' := 2700) (by decide +kernel) rfl rfl (by decide) rfl) ?_
        refine XE.asc ?_
        refine XE.cW1 (pc' := 2703) (st := []) (fun r hr => ct_L_share r hr) (fun r hr => run_S (st := []) (by decide +kernel) co_L_law_276 (ct_L_share r hr) rfl rfl (Nat.le_of_ble_eq_true rfl)) rfl rfl (fun r1352 => ?_)
        refine XE.go (st_istore (j := 5) (pc' := 2705) (by decide +kernel)  rfl (by decide) rfl rfl) ?_
        refine XE.go (st_aload_n (j := 2) (i := 2) (pc' := 2706) (by decide +kernel) rfl rfl (by decide) rfl) ?_
        refine XE.go (st_aload_n (j := 0) (i := 0) (pc' := 2707) (by decide +kernel) rfl rfl (by decide) rfl) ?_
        refine XE.go (st_iload (j := 4) (pc' := 2709) (by decide +kernel) rfl rfl) ?_
        refine XE.go (st_iconst (n := 1) (pc' := 2710) (by decide +kernel) (w_eq (by decide) (by decide)) rfl) ?_
        refine XE.go (st_iadd (pc' := 2711) (by decide +kernel) rfl) ?_
        refine XE.gdb (fun g1353 => ?_)
        refine XE.go (st_sld (pc' := 2712) (by decide +kernel) rfl g1353.1 g1353.2) ?_
        refine XE.go (st_aload_n (j := 0) (i := 0) (pc' := 2713) (by decide +kernel) rfl rfl (by decide) rfl) ?_
        refine XE.go (st_iload (j := 4) (pc' := 2715) (by decide +kernel) rfl rfl) ?_
        refine XE.go (st_iconst (n := 2) (pc' := 2716) (by decide +kernel) (w_eq (by decide) (by decide)) rfl) ?_
        refine XE.go (st_iadd (pc' := 2717) (by decide +kernel) rfl) ?_
        refine XE.gdb (fun g1354 => ?_)
        refine XE.go (st_sld (pc' := 2718) (by decide +kernel) rfl g1354.1 g1354.2) ?_
        refine XE.go (st_aload_n (j := 0) (i := 0) (pc' := 2719) (by decide +kernel) rfl rfl (by decide) rfl) ?_
        refine XE.go (st_iload (j := 4) (pc' := 2721) (by decide +kernel) rfl rfl) ?_
        refine XE.go (st_iconst (n := 3) (pc' := 2722) (by decide +kernel) (w_eq (by decide) (by decide)) rfl) ?_
        refine XE.go (st_iadd (pc' := 2723) (by decide +kernel) rfl) ?_
        refine XE.gdb (fun g1355 => ?_)
        refine XE.go (st_sld (pc' := 2724) (by decide +kernel) rfl g1355.1 g1355.2) ?_
        refine XE.asc ?_
        refine XE.cW (pc' := 2727) (st := []) (fun r hr => ct_X11_share h5 r hr) (fun r hr => run_V (st := []) (by decide +kernel) co_L_law_278 (ct_X11_share h5 r hr) rfl h5 rfl rfl (Nat.le_of_ble_eq_true rfl)) rfl rfl (fun r1356 => ?_)
        refine XE.go (st_istore (j := 6) (pc' := 2729) (by decide +kernel)  rfl (by decide) rfl rfl) ?_
        refine XE.go (st_aload_n (j := 2) (i := 2) (pc' := 2730) (by decide +kernel) rfl rfl (by decide) rfl) ?_
        refine XE.asc ?_
        refine XE.cP (pc' := 2733) (st := []) (fun r hr => ct_X11_thrown h5 r hr) (fun r hr => run_V (st := []) (by decide +kernel) co_L_law_165 (ct_X11_thrown h5 r hr) rfl h5 rfl rfl (Nat.le_of_ble_eq_true rfl)) rfl rfl (fun r1357 => ?_)
        refine XE.go (st_iload (j := 5) (pc' := 2735) (by decide +kernel) rfl rfl) ?_
        refine XE.bite (fun h1358 => ?_) (fun h1359 => ?_)
        · refine XE.go (st_icmp_eq_t (off := 5) (pc' := 2740) (by decide +kernel) (by decide) h1358) ?_
          refine XE.go (st_iload (j := 5) (pc' := 2742) (by decide +kernel) rfl rfl) ?_
          refine XE.bite (fun h1360 => ?_) (fun h1361 => ?_)
          · refine XE.go (st_if_ne_f (off := 15) (pc' := 2745) (by decide +kernel) 2757 (by decide) rfl (not_not_intro h1360)) ?_
            refine XE.go (st_aload_n (j := 3) (i := 3) (pc' := 2746) (by decide +kernel) rfl rfl (by decide) rfl) ?_
            refine XE.go (st_iconst (n := 0) (pc' := 2747) (by decide +kernel) (w_eq (by decide) (by decide)) rfl) ?_
            refine XE.gdb (fun g1362 => ?_)
            refine XE.go (st_ald (k := 15) (tp := 2) (pc' := 2748) (by decide +kernel) rfl ak_15 rfl (by decide) rfl (Or.inr (Or.inr (Or.inl ⟨rfl, rfl⟩))) g1362.1 g1362.2.1 g1362.2.2) ?_
            refine XE.go (st_iload (j := 6) (pc' := 2750) (by decide +kernel) rfl rfl) ?_
            refine XE.go (st_i2l (pc' := 2751) (by decide +kernel) rfl) ?_
            refine XE.go (st_lcmp (pc' := 2752) (by decide +kernel) rfl) ?_
            refine XE.bite (fun h1363 => ?_) (fun h1364 => ?_)
            · refine XE.go (st_if_eq_t (off := 5) (pc' := 2757) (by decide +kernel) (by decide) h1363) ?_
              refine XE.go (st_goto (off := 591) (pc' := 3348) (by decide +kernel) (by decide)) ?_
              refine XE.go (st_iinc (j := 4) (n := 6) (pc' := 3351) (by decide +kernel) rfl rfl (by decide) rfl rfl) ?_
              refine XE.go (st_goto (off := (-3328)) (pc' := 23) (by decide +kernel) (by decide)) ?_
              exact XE.pick [3, 4, 5, 6, 0] rfl (hc760 ((w (s9.1 + 6)), r1356.2))
            · refine XE.go (st_if_eq_f (off := 5) (pc' := 2755) (by decide +kernel) 2757 (by decide) rfl h1364) ?_
              refine XE.go (st_iconst (n := 0) (pc' := 2756) (by decide +kernel) (w_eq (by decide) (by decide)) rfl) ?_
              refine XE.cast (hx762 _) ?_
              exact XE.rt rfl (X_zret (by decide +kernel) rfl (by decide))
          · refine XE.go (st_if_ne_t (off := 15) (pc' := 2757) (by decide +kernel) (by decide) h1361) ?_
            refine XE.go (st_goto (off := 591) (pc' := 3348) (by decide +kernel) (by decide)) ?_
            refine XE.go (st_iinc (j := 4) (n := 6) (pc' := 3351) (by decide +kernel) rfl rfl (by decide) rfl rfl) ?_
            refine XE.go (st_goto (off := (-3328)) (pc' := 23) (by decide +kernel) (by decide)) ?_
            exact XE.pick [3, 4, 5, 6, 0] rfl (hc760 ((w (s9.1 + 6)), r1356.2))
        · refine XE.go (st_icmp_eq_f (off := 5) (pc' := 2738) (by decide +kernel) 2740 (by decide) rfl h1359) ?_
          refine XE.go (st_iconst (n := 0) (pc' := 2739) (by decide +kernel) (w_eq (by decide) (by decide)) rfl) ?_
          refine XE.cast (hx762 _) ?_
          exact XE.rt rfl (X_zret (by decide +kernel) rfl (by decide))
      refine XE.bite (fun h1365 => ?_) (fun h1366 => ?_)
      · refine XE.go (st_tab_in (dflt := 3308) (lo := 0) (hi := 44) (offs := #[196, 292, 372, 428, 484, 540, 596, 652, 708, 752, 820, 912, 1004, 1108, 1176, 1232, 1312, 1368, 1424, 1480, 1536, 1604, 1672, 1752, 1820, 1900, 1980, 2048, 2128, 2196, 2264, 2332, 2412, 2480, 2548, 2640, 2720, 2800, 2892, 2972, 3040, 3108, 3164, 3232, 3295]) (len := 196) (off := 2720) (pc' := 2760) (by decide +kernel) 36 h1365 (by decide) (by decide) (by decide) (by decide)) ?_
        unfold c_L_36
        refine XE.go (st_aload_n (j := 1) (i := 1) (pc' := 2761) (by decide +kernel) rfl rfl (by decide) rfl) ?_
        refine XE.go (st_aload_n (j := 0) (i := 0) (pc' := 2762) (by decide +kernel) rfl rfl (by decide) rfl) ?_
        refine XE.go (st_iload (j := 4) (pc' := 2764) (by decide +kernel) rfl rfl) ?_
        refine XE.go (st_iconst (n := 1) (pc' := 2765) (by decide +kernel) (w_eq (by decide) (by decide)) rfl) ?_
        refine XE.go (st_iadd (pc' := 2766) (by decide +kernel) rfl) ?_
        refine XE.gdb (fun g1367 => ?_)
        refine XE.go (st_sld (pc' := 2767) (by decide +kernel) rfl g1367.1 g1367.2) ?_
        refine XE.go (st_aload_n (j := 0) (i := 0) (pc' := 2768) (by decide +kernel) rfl rfl (by decide) rfl) ?_
        refine XE.go (st_iload (j := 4) (pc' := 2770) (by decide +kernel) rfl rfl) ?_
        refine XE.go (st_iconst (n := 2) (pc' := 2771) (by decide +kernel) (w_eq (by decide) (by decide)) rfl) ?_
        refine XE.go (st_iadd (pc' := 2772) (by decide +kernel) rfl) ?_
        refine XE.gdb (fun g1368 => ?_)
        refine XE.go (st_sld (pc' := 2773) (by decide +kernel) rfl g1368.1 g1368.2) ?_
        refine XE.go (st_aload_n (j := 0) (i := 0) (pc' := 2774) (by decide +kernel) rfl rfl (by decide) rfl) ?_
        refine XE.go (st_iload (j := 4) (pc' := 2776) (by decide +kernel) rfl rfl) ?_
        refine XE.go (st_iconst (n := 3) (pc' := 2777) (by decide +kernel) (w_eq (by decide) (by decide)) rfl) ?_
        refine XE.go (st_iadd (pc' := 2778) (by decide +kernel) rfl) ?_
        refine XE.gdb (fun g1369 => ?_)
        refine XE.go (st_sld (pc' := 2779) (by decide +kernel) rfl g1369.1 g1369.2) ?_
        refine XE.go (st_aload_n (j := 3) (i := 3) (pc' := 2780) (by decide +kernel) rfl rfl (by decide) rfl) ?_
        refine XE.asc ?_
        refine XE.cW1 (pc' := 2783) (st := []) (fun r hr => ct_L_member r hr) (fun r hr => run_S (st := []) (by decide +kernel) co_L_law_279 (ct_L_member r hr) rfl rfl (Nat.le_of_ble_eq_true rfl)) rfl rfl (fun r1370 => ?_)
        refine XE.go (st_istore (j := 5) (pc' := 2785) (by decide +kernel)  rfl (by decide) rfl rfl) ?_
        refine XE.go (st_aload_n (j := 2) (i := 2) (pc' := 2786) (by decide +kernel) rfl rfl (by decide) rfl) ?_
        refine XE.go (st_aload_n (j := 0) (i := 0) (pc' := 2787) (by decide +kernel) rfl rfl (by decide) rfl) ?_
        refine XE.go (st_iload (j := 4) (pc' := 2789) (by decide +kernel) rfl rfl) ?_
        refine XE.go (st_iconst (n := 1) (pc' := 2790) (by decide +kernel) (w_eq (by decide) (by decide)) rfl) ?_
        refine XE.go (st_iadd (pc' := 2791) (by decide +kernel) rfl) ?_
        refine XE.gdb (fun g1371 => ?_)
        refine XE.go (st_sld (pc' := 2792) (by decide +kernel) rfl g1371.1 g1371.2) ?_
        refine XE.go (st_aload_n (j := 0) (i := 0) (pc' := 2793) (by decide +kernel) rfl rfl (by decide) rfl) ?_
        refine XE.go (st_iload (j := 4) (pc' := 2795) (by decide +kernel) rfl rfl) ?_
        refine XE.go (st_iconst (n := 2) (pc' := 2796) (by decide +kernel) (w_eq (by decide) (by decide)) rfl) ?_
        refine XE.go (st_iadd (pc' := 2797) (by decide +kernel) rfl) ?_
        refine XE.gdb (fun g1372 => ?_)
        refine XE.go (st_sld (pc' := 2798) (by decide +kernel) rfl g1372.1 g1372.2) ?_
        refine XE.go (st_aload_n (j := 0) (i := 0) (pc' := 2799) (by decide +kernel) rfl rfl (by decide) rfl) ?_
        refine XE.go (st_iload (j := 4) (pc' := 2801) (by decide +kernel) rfl rfl) ?_
        refine XE.go (st_iconst (n := 3) (pc' := 2802) (by decide +kernel) (w_eq (by decide) (by decide)) rfl) ?_
        refine XE.go (st_iadd (pc' := 2803) (by decide +kernel) rfl) ?_
        refine XE.gdb (fun g1373 => ?_)
        refine XE.go (st_sld (pc' := 2804) (by decide +kernel) rfl g1373.1 g1373.2) ?_
        refine XE.asc ?_
        refine XE.cW (pc' := 2807) (st := []) (fun r hr => ct_X11_member h5 r hr) (fun r hr => run_V (st := []) (by decide +kernel) co_L_law_281 (ct_X11_member h5 r hr) rfl h5 rfl rfl (Nat.le_of_ble_eq_true rfl)) rfl rfl (fun r1374 => ?_)
        refine XE.go (st_istore (j := 6) (pc' := 2809) (by decide +kernel)  rfl (by decide) rfl rfl) ?_
        refine XE.go (st_aload_n (j := 2) (i := 2) (pc' := 2810) (by decide +kernel) rfl rfl (by decide) rfl) ?_
        refine XE.asc ?_
        refine XE.cP (pc' := 2813) (st := []) (fun r hr => ct_X11_thrown h5 r hr) (fun r hr => run_V (st := []) (by decide +kernel) co_L_law_165 (ct_X11_thrown h5 r hr) rfl h5 rfl rfl (Nat.le_of_ble_eq_true rfl)) rfl rfl (fun r1375 => ?_)
        refine XE.go (st_iload (j := 5) (pc' := 2815) (by decide +kernel) rfl rfl) ?_
        refine XE.bite (fun h1376 => ?_) (fun h1377 => ?_)
        · refine XE.go (st_icmp_eq_t (off := 5) (pc' := 2820) (by decide +kernel) (by decide) h1376) ?_
          refine XE.go (st_iload (j := 5) (pc' := 2822) (by decide +kernel) rfl rfl) ?_
          refine XE.bite (fun h1378 => ?_) (fun h1379 => ?_)
          · refine XE.go (st_if_ne_f (off := 15) (pc' := 2825) (by decide +kernel) 2837 (by decide) rfl (not_not_intro h1378)) ?_
            refine XE.go (st_aload_n (j := 3) (i := 3) (pc' := 2826) (by decide +kernel) rfl rfl (by decide) rfl) ?_
            refine XE.go (st_iconst (n := 0) (pc' := 2827) (by decide +kernel) (w_eq (by decide) (by decide)) rfl) ?_
            refine XE.gdb (fun g1380 => ?_)
            refine XE.go (st_ald (k := 15) (tp := 2) (pc' := 2828) (by decide +kernel) rfl ak_15 rfl (by decide) rfl (Or.inr (Or.inr (Or.inl ⟨rfl, rfl⟩))) g1380.1 g1380.2.1 g1380.2.2) ?_
            refine XE.go (st_iload (j := 6) (pc' := 2830) (by decide +kernel) rfl rfl) ?_
            refine XE.go (st_i2l (pc' := 2831) (by decide +kernel) rfl) ?_
            refine XE.go (st_lcmp (pc' := 2832) (by decide +kernel) rfl) ?_
            refine XE.bite (fun h1381 => ?_) (fun h1382 => ?_)
            · refine XE.go (st_if_eq_t (off := 5) (pc' := 2837) (by decide +kernel) (by decide) h1381) ?_
              refine XE.go (st_goto (off := 511) (pc' := 3348) (by decide +kernel) (by decide)) ?_
              refine XE.go (st_iinc (j := 4) (n := 6) (pc' := 3351) (by decide +kernel) rfl rfl (by decide) rfl rfl) ?_
              refine XE.go (st_goto (off := (-3328)) (pc' := 23) (by decide +kernel) (by decide)) ?_
              exact XE.pick [3, 4, 5, 6, 0] rfl (hc760 ((w (s9.1 + 6)), r1374.2))
            · refine XE.go (st_if_eq_f (off := 5) (pc' := 2835) (by decide +kernel) 2837 (by decide) rfl h1382) ?_
              refine XE.go (st_iconst (n := 0) (pc' := 2836) (by decide +kernel) (w_eq (by decide) (by decide)) rfl) ?_
              refine XE.cast (hx762 _) ?_
              exact XE.rt rfl (X_zret (by decide +kernel) rfl (by decide))
          · refine XE.go (st_if_ne_t (off := 15) (pc' := 2837) (by decide +kernel) (by decide) h1379) ?_
            refine XE.go (st_goto (off := 511) (pc' := 3348) (by decide +kernel) (by decide)) ?_
            refine XE.go (st_iinc (j := 4) (n := 6) (pc' := 3351) (by decide +kernel) rfl rfl (by decide) rfl rfl) ?_
            refine XE.go (st_goto (off := (-3328)) (pc' := 23) (by decide +kernel) (by decide)) ?_
            exact XE.pick [3, 4, 5, 6, 0] rfl (hc760 ((w (s9.1 + 6)), r1374.2))
        · refine XE.go (st_icmp_eq_f (off := 5) (pc' := 2818) (by decide +kernel) 2820 (by decide) rfl h1377) ?_
          refine XE.go (st_iconst (n := 0) (pc' := 2819) (by decide +kernel) (w_eq (by decide) (by decide)) rfl) ?_
          refine XE.cast (hx762 _) ?_
          exact XE.rt rfl (X_zret (by decide +kernel) rfl (by decide))
      refine XE.bite (fun h1383 => ?_) (fun h1384 => ?_)
      · refine XE.go (st_tab_in (dflt := 3308) (lo := 0) (hi := 44) (offs := #[196, 292, 372, 428, 484, 540, 596, 652, 708, 752, 820, 912, 1004, 1108, 1176, 1232, 1312, 1368, 1424, 1480, 1536, 1604, 1672, 1752, 1820, 1900, 1980, 2048, 2128, 2196, 2264, 2332, 2412, 2480, 2548, 2640, 2720, 2800, 2892, 2972, 3040, 3108, 3164, 3232, 3295]) (len := 196) (off := 2800) (pc' := 2840) (by decide +kernel) 37 h1383 (by decide) (by decide) (by decide) (by decide)) ?_
        unfold c_L_37
        refine XE.go (st_aload_n (j := 1) (i := 1) (pc' := 2841) (by decide +kernel) rfl rfl (by decide) rfl) ?_
        refine XE.go (st_aload_n (j := 0) (i := 0) (pc' := 2842) (by decide +kernel) rfl rfl (by decide) rfl) ?_
        refine XE.go (st_iload (j := 4) (pc' := 2844) (by decide +kernel) rfl rfl) ?_
        refine XE.go (st_iconst (n := 1) (pc' := 2845) (by decide +kernel) (w_eq (by decide) (by decide)) rfl) ?_
        refine XE.go (st_iadd (pc' := 2846) (by decide +kernel) rfl) ?_
        refine XE.gdb (fun g1385 => ?_)
        refine XE.go (st_sld (pc' := 2847) (by decide +kernel) rfl g1385.1 g1385.2) ?_
        refine XE.go (st_aload_n (j := 0) (i := 0) (pc' := 2848) (by decide +kernel) rfl rfl (by decide) rfl) ?_
        refine XE.go (st_iload (j := 4) (pc' := 2850) (by decide +kernel) rfl rfl) ?_
        refine XE.go (st_iconst (n := 2) (pc' := 2851) (by decide +kernel) (w_eq (by decide) (by decide)) rfl) ?_
        refine XE.go (st_iadd (pc' := 2852) (by decide +kernel) rfl) ?_
        refine XE.gdb (fun g1386 => ?_)
        refine XE.go (st_sld (pc' := 2853) (by decide +kernel) rfl g1386.1 g1386.2) ?_
        refine XE.go (st_aload_n (j := 0) (i := 0) (pc' := 2854) (by decide +kernel) rfl rfl (by decide) rfl) ?_
        refine XE.go (st_iload (j := 4) (pc' := 2856) (by decide +kernel) rfl rfl) ?_
        refine XE.go (st_iconst (n := 3) (pc' := 2857) (by decide +kernel) (w_eq (by decide) (by decide)) rfl) ?_
        refine XE.go (st_iadd (pc' := 2858) (by decide +kernel) rfl) ?_
        refine XE.gdb (fun g1387 => ?_)
        refine XE.go (st_sld (pc' := 2859) (by decide +kernel) rfl g1387.1 g1387.2) ?_
        refine XE.go (st_aload_n (j := 0) (i := 0) (pc' := 2860) (by decide +kernel) rfl rfl (by decide) rfl) ?_
        refine XE.go (st_iload (j := 4) (pc' := 2862) (by decide +kernel) rfl rfl) ?_
        refine XE.go (st_iconst (n := 4) (pc' := 2863) (by decide +kernel) (w_eq (by decide) (by decide)) rfl) ?_
        refine XE.go (st_iadd (pc' := 2864) (by decide +kernel) rfl) ?_
        refine XE.gdb (fun g1388 => ?_)
        refine XE.go (st_sld (pc' := 2865) (by decide +kernel) rfl g1388.1 g1388.2) ?_
        refine XE.go (st_aload_n (j := 3) (i := 3) (pc' := 2866) (by decide +kernel) rfl rfl (by decide) rfl) ?_
        refine XE.asc ?_
        refine XE.cW1 (pc' := 2869) (st := []) (fun r hr => ct_L_hand r hr) (fun r hr => run_S (st := []) (by decide +kernel) co_L_law_282 (ct_L_hand r hr) rfl rfl (Nat.le_of_ble_eq_true rfl)) rfl rfl (fun r1389 => ?_)
        refine XE.go (st_istore (j := 5) (pc' := 2871) (by decide +kernel)  rfl (by decide) rfl rfl) ?_
        refine XE.go (st_aload_n (j := 2) (i := 2) (pc' := 2872) (by decide +kernel) rfl rfl (by decide) rfl) ?_
        refine XE.go (st_aload_n (j := 0) (i := 0) (pc' := 2873) (by decide +kernel) rfl rfl (by decide) rfl) ?_
        refine XE.go (st_iload (j := 4) (pc' := 2875) (by decide +kernel) rfl rfl) ?_
        refine XE.go (st_iconst (n := 1) (pc' := 2876) (by decide +kernel) (w_eq (by decide) (by decide)) rfl) ?_
        refine XE.go (st_iadd (pc' := 2877) (by decide +kernel) rfl) ?_
        refine XE.gdb (fun g1390 => ?_)
        refine XE.go (st_sld (pc' := 2878) (by decide +kernel) rfl g1390.1 g1390.2) ?_
        refine XE.go (st_aload_n (j := 0) (i := 0) (pc' := 2879) (by decide +kernel) rfl rfl (by decide) rfl) ?_
        refine XE.go (st_iload (j := 4) (pc' := 2881) (by decide +kernel) rfl rfl) ?_
        refine XE.go (st_iconst (n := 2) (pc' := 2882) (by decide +kernel) (w_eq (by decide) (by decide)) rfl) ?_
        refine XE.go (st_iadd (pc' := 2883) (by decide +kernel) rfl) ?_
        refine XE.gdb (fun g1391 => ?_)
        refine XE.go (st_sld (pc' := 2884) (by decide +kernel) rfl g1391.1 g1391.2) ?_
        refine XE.go (st_aload_n (j := 0) (i := 0) (pc' := 2885) (by decide +kernel) rfl rfl (by decide) rfl) ?_
        refine XE.go (st_iload (j := 4) (pc' := 2887) (by decide +kernel) rfl rfl) ?_
        refine XE.go (st_iconst (n := 3) (pc' := 2888) (by decide +kernel) (w_eq (by decide) (by decide)) rfl) ?_
        refine XE.go (st_iadd (pc' := 2889) (by decide +kernel) rfl) ?_
        refine XE.gdb (fun g1392 => ?_)
        refine XE.go (st_sld (pc' := 2890) (by decide +kernel) rfl g1392.1 g1392.2) ?_
        refine XE.go (st_aload_n (j := 0) (i := 0) (pc' := 2891) (by decide +kernel) rfl rfl (by decide) rfl) ?_
        refine XE.go (st_iload (j := 4) (pc' := 2893) (by decide +kernel) rfl rfl) ?_
        refine XE.go (st_iconst (n := 4) (pc' := 2894) (by decide +kernel) (w_eq (by decide) (by decide)) rfl) ?_
        refine XE.go (st_iadd (pc' := 2895) (by decide +kernel) rfl) ?_
        refine XE.gdb (fun g1393 => ?_)
        refine XE.go (st_sld (pc' := 2896) (by decide +kernel) rfl g1393.1 g1393.2) ?_
        refine XE.asc ?_
        refine XE.cW (pc' := 2899) (st := []) (fun r hr => ct_X11_hand h5 r hr) (fun r hr => run_V (st := []) (by decide +kernel) co_L_law_284 (ct_X11_hand h5 r hr) rfl h5 rfl rfl (Nat.le_of_ble_eq_true rfl)) rfl rfl (fun r1394 => ?_)
        refine XE.go (st_istore (j := 6) (pc' := 2901) (by decide +kernel)  rfl (by decide) rfl rfl) ?_
        refine XE.go (st_aload_n (j := 2) (i := 2) (pc' := 2902) (by decide +kernel) rfl rfl (by decide) rfl) ?_
        refine XE.asc ?_
        refine XE.cP (pc' := 2905) (st := []) (fun r hr => ct_X11_thrown h5 r hr) (fun r hr => run_V (st := []) (by decide +kernel) co_L_law_165 (ct_X11_thrown h5 r hr) rfl h5 rfl rfl (Nat.le_of_ble_eq_true rfl)) rfl rfl (fun r1395 => ?_)
        refine XE.go (st_iload (j := 5) (pc' := 2907) (by decide +kernel) rfl rfl) ?_
        refine XE.bite (fun h1396 => ?_) (fun h1397 => ?_)
        · refine XE.go (st_icmp_eq_t (off := 5) (pc' := 2912) (by decide +kernel) (by decide) h1396) ?_
          refine XE.go (st_iload (j := 5) (pc' := 2914) (by decide +kernel) rfl rfl) ?_
          refine XE.bite (fun h1398 => ?_) (fun h1399 => ?_)
          · refine XE.go (st_if_ne_f (off := 15) (pc' := 2917) (by decide +kernel) 2929 (by decide) rfl (not_not_intro h1398)) ?_
            refine XE.go (st_aload_n (j := 3) (i := 3) (pc' := 2918) (by decide +kernel) rfl rfl (by decide) rfl) ?_
            refine XE.go (st_iconst (n := 0) (pc' := 2919) (by decide +kernel) (w_eq (by decide) (by decide)) rfl) ?_
            refine XE.gdb (fun g1400 => ?_)
            refine XE.go (st_ald (k := 15) (tp := 2) (pc' := 2920) (by decide +kernel) rfl ak_15 rfl (by decide) rfl (Or.inr (Or.inr (Or.inl ⟨rfl, rfl⟩))) g1400.1 g1400.2.1 g1400.2.2) ?_
            refine XE.go (st_iload (j := 6) (pc' := 2922) (by decide +kernel) rfl rfl) ?_
            refine XE.go (st_i2l (pc' := 2923) (by decide +kernel) rfl) ?_
            refine XE.go (st_lcmp (pc' := 2924) (by decide +kernel) rfl) ?_
            refine XE.bite (fun h1401 => ?_) (fun h1402 => ?_)
            · refine XE.go (st_if_eq_t (off := 5) (pc' := 2929) (by decide +kernel) (by decide) h1401) ?_
              refine XE.go (st_goto (off := 419) (pc' := 3348) (by decide +kernel) (by decide)) ?_
              refine XE.go (st_iinc (j := 4) (n := 6) (pc' := 3351) (by decide +kernel) rfl rfl (by decide) rfl rfl) ?_
              refine XE.go (st_goto (off := (-3328)) (pc' := 23) (by decide +kernel) (by decide)) ?_
              exact XE.pick [3, 4, 5, 6, 0] rfl (hc760 ((w (s9.1 + 6)), r1394.2))
            · refine XE.go (st_if_eq_f (off := 5) (pc' := 2927) (by decide +kernel) 2929 (by decide) rfl h1402) ?_
              refine XE.go (st_iconst (n := 0) (pc' := 2928) (by decide +kernel) (w_eq (by decide) (by decide)) rfl) ?_
              refine XE.cast (hx762 _) ?_
              exact XE.rt rfl (X_zret (by decide +kernel) rfl (by decide))
          · refine XE.go (st_if_ne_t (off := 15) (pc' := 2929) (by decide +kernel) (by decide) h1399) ?_
            refine XE.go (st_goto (off := 419) (pc' := 3348) (by decide +kernel) (by decide)) ?_
            refine XE.go (st_iinc (j := 4) (n := 6) (pc' := 3351) (by decide +kernel) rfl rfl (by decide) rfl rfl) ?_
            refine XE.go (st_goto (off := (-3328)) (pc' := 23) (by decide +kernel) (by decide)) ?_
            exact XE.pick [3, 4, 5, 6, 0] rfl (hc760 ((w (s9.1 + 6)), r1394.2))
        · refine XE.go (st_icmp_eq_f (off := 5) (pc' := 2910) (by decide +kernel) 2912 (by decide) rfl h1397) ?_
          refine XE.go (st_iconst (n := 0) (pc' := 2911) (by decide +kernel) (w_eq (by decide) (by decide)) rfl) ?_
          refine XE.cast (hx762 _) ?_
          exact XE.rt rfl (X_zret (by decide +kernel) rfl (by decide))
      refine XE.bite (fun h1403 => ?_) (fun h1404 => ?_)
      · refine XE.go (st_tab_in (dflt := 3308) (lo := 0) (hi := 44) (offs := #[196, 292, 372, 428, 484, 540, 596, 652, 708, 752, 820, 912, 1004, 1108, 1176, 1232, 1312, 1368, 1424, 1480, 1536, 1604, 1672, 1752, 1820, 1900, 1980, 2048, 2128, 2196, 2264, 2332, 2412, 2480, 2548, 2640, 2720, 2800, 2892, 2972, 3040, 3108, 3164, 3232, 3295]) (len := 196) (off := 2892) (pc' := 2932) (by decide +kernel) 38 h1403 (by decide) (by decide) (by decide) (by decide)) ?_
        unfold c_L_38
        refine XE.go (st_aload_n (j := 1) (i := 1) (pc' := 2933) (by decide +kernel) rfl rfl (by decide) rfl) ?_
        refine XE.go (st_aload_n (j := 0) (i := 0) (pc' := 2934) (by decide +kernel) rfl rfl (by decide) rfl) ?_
        refine XE.go (st_iload (j := 4) (pc' := 2936) (by decide +kernel) rfl rfl) ?_
        refine XE.go (st_iconst (n := 1) (pc' := 2937) (by decide +kernel) (w_eq (by decide) (by decide)) rfl) ?_
        refine XE.go (st_iadd (pc' := 2938) (by decide +kernel) rfl) ?_
        refine XE.gdb (fun g1405 => ?_)
        refine XE.go (st_sld (pc' := 2939) (by decide +kernel) rfl g1405.1 g1405.2) ?_
        refine XE.go (st_aload_n (j := 0) (i := 0) (pc' := 2940) (by decide +kernel) rfl rfl (by decide) rfl) ?_
        refine XE.go (st_iload (j := 4) (pc' := 2942) (by decide +kernel) rfl rfl) ?_
        refine XE.go (st_iconst (n := 2) (pc' := 2943) (by decide +kernel) (w_eq (by decide) (by decide)) rfl) ?_
        refine XE.go (st_iadd (pc' := 2944) (by decide +kernel) rfl) ?_
        refine XE.gdb (fun g1406 => ?_)
        refine XE.go (st_sld (pc' := 2945) (by decide +kernel) rfl g1406.1 g1406.2) ?_
        refine XE.go (st_aload_n (j := 0) (i := 0) (pc' := 2946) (by decide +kernel) rfl rfl (by decide) rfl) ?_
        refine XE.go (st_iload (j := 4) (pc' := 2948) (by decide +kernel) rfl rfl) ?_
        refine XE.go (st_iconst (n := 3) (pc' := 2949) (by decide +kernel) (w_eq (by decide) (by decide)) rfl) ?_
        refine XE.go (st_iadd (pc' := 2950) (by decide +kernel) rfl) ?_
        refine XE.gdb (fun g1407 => ?_)
        refine XE.go (st_sld (pc' := 2951) (by decide +kernel) rfl g1407.1 g1407.2) ?_
        refine XE.go (st_aload_n (j := 3) (i := 3) (pc' := 2952) (by decide +kernel) rfl rfl (by decide) rfl) ?_
        refine XE.asc ?_
        refine XE.cW1 (pc' := 2955) (st := []) (fun r hr => ct_L_waits r hr) (fun r hr => run_S (st := []) (by decide +kernel) co_L_law_285 (ct_L_waits r hr) rfl rfl (Nat.le_of_ble_eq_true rfl)) rfl rfl (fun r1408 => ?_)
        refine XE.go (st_istore (j := 5) (pc' := 2957) (by decide +kernel)  rfl (by decide) rfl rfl) ?_
        refine XE.go (st_aload_n (j := 2) (i := 2) (pc' := 2958) (by decide +kernel) rfl rfl (by decide) rfl) ?_
        refine XE.go (st_aload_n (j := 0) (i := 0) (pc' := 2959) (by decide +kernel) rfl rfl (by decide) rfl) ?_
        refine XE.go (st_iload (j := 4) (pc' := 2961) (by decide +kernel) rfl rfl) ?_
        refine XE.go (st_iconst (n := 1) (pc' := 2962) (by decide +kernel) (w_eq (by decide) (by decide)) rfl) ?_
        refine XE.go (st_iadd (pc' := 2963) (by decide +kernel) rfl) ?_
        refine XE.gdb (fun g1409 => ?_)
        refine XE.go (st_sld (pc' := 2964) (by decide +kernel) rfl g1409.1 g1409.2) ?_
        refine XE.go (st_aload_n (j := 0) (i := 0) (pc' := 2965) (by decide +kernel) rfl rfl (by decide) rfl) ?_
        refine XE.go (st_iload (j := 4) (pc' := 2967) (by decide +kernel) rfl rfl) ?_
        refine XE.go (st_iconst (n := 2) (pc' := 2968) (by decide +kernel) (w_eq (by decide) (by decide)) rfl) ?_
        refine XE.go (st_iadd (pc' := 2969) (by decide +kernel) rfl) ?_
        refine XE.gdb (fun g1410 => ?_)
        refine XE.go (st_sld (pc' := 2970) (by decide +kernel) rfl g1410.1 g1410.2) ?_
        refine XE.go (st_aload_n (j := 0) (i := 0) (pc' := 2971) (by decide +kernel) rfl rfl (by decide) rfl) ?_
        refine XE.go (st_iload (j := 4) (pc' := 2973) (by decide +kernel) rfl rfl) ?_
        refine XE.go (st_iconst (n := 3) (pc' := 2974) (by decide +kernel) (w_eq (by decide) (by decide)) rfl) ?_
        refine XE.go (st_iadd (pc' := 2975) (by decide +kernel) rfl) ?_
        refine XE.gdb (fun g1411 => ?_)
        refine XE.go (st_sld (pc' := 2976) (by decide +kernel) rfl g1411.1 g1411.2) ?_
        refine XE.asc ?_
        refine XE.cW (pc' := 2979) (st := []) (fun r hr => ct_X11_waits h5 r hr) (fun r hr => run_V (st := []) (by decide +kernel) co_L_law_287 (ct_X11_waits h5 r hr) rfl h5 rfl rfl (Nat.le_of_ble_eq_true rfl)) rfl rfl (fun r1412 => ?_)
        refine XE.go (st_istore (j := 6) (pc' := 2981) (by decide +kernel)  rfl (by decide) rfl rfl) ?_
        refine XE.go (st_aload_n (j := 2) (i := 2) (pc' := 2982) (by decide +kernel) rfl rfl (by decide) rfl) ?_
        refine XE.asc ?_
        refine XE.cP (pc' := 2985) (st := []) (fun r hr => ct_X11_thrown h5 r hr) (fun r hr => run_V (st := []) (by decide +kernel) co_L_law_165 (ct_X11_thrown h5 r hr) rfl h5 rfl rfl (Nat.le_of_ble_eq_true rfl)) rfl rfl (fun r1413 => ?_)
        refine XE.go (st_iload (j := 5) (pc' := 2987) (by decide +kernel) rfl rfl) ?_
        refine XE.bite (fun h1414 => ?_) (fun h1415 => ?_)
        · refine XE.go (st_icmp_eq_t (off := 5) (pc' := 2992) (by decide +kernel) (by decide) h1414) ?_
          refine XE.go (st_iload (j := 5) (pc' := 2994) (by decide +kernel) rfl rfl) ?_
          refine XE.bite (fun h1416 => ?_) (fun h1417 => ?_)
          · refine XE.go (st_if_ne_f (off := 15) (pc' := 2997) (by decide +kernel) 3009 (by decide) rfl (not_not_intro h1416)) ?_
            refine XE.go (st_aload_n (j := 3) (i := 3) (pc' := 2998) (by decide +kernel) rfl rfl (by decide) rfl) ?_
            refine XE.go (st_iconst (n := 0) (pc' := 2999) (by decide +kernel) (w_eq (by decide) (by decide)) rfl) ?_
            refine XE.gdb (fun g1418 => ?_)
            refine XE.go (st_ald (k := 15) (tp := 2) (pc' := 3000) (by decide +kernel) rfl ak_15 rfl (by decide) rfl (Or.inr (Or.inr (Or.inl ⟨rfl, rfl⟩))) g1418.1 g1418.2.1 g1418.2.2) ?_
            refine XE.go (st_iload (j := 6) (pc' := 3002) (by decide +kernel) rfl rfl) ?_
            refine XE.go (st_i2l (pc' := 3003) (by decide +kernel) rfl) ?_
            refine XE.go (st_lcmp (pc' := 3004) (by decide +kernel) rfl) ?_
            refine XE.bite (fun h1419 => ?_) (fun h1420 => ?_)
            · refine XE.go (st_if_eq_t (off := 5) (pc' := 3009) (by decide +kernel) (by decide) h1419) ?_
              refine XE.go (st_goto (off := 339) (pc' := 3348) (by decide +kernel) (by decide)) ?_
              refine XE.go (st_iinc (j := 4) (n := 6) (pc' := 3351) (by decide +kernel) rfl rfl (by decide) rfl rfl) ?_
              refine XE.go (st_goto (off := (-3328)) (pc' := 23) (by decide +kernel) (by decide)) ?_
              exact XE.pick [3, 4, 5, 6, 0] rfl (hc760 ((w (s9.1 + 6)), r1412.2))
            · refine XE.go (st_if_eq_f (off := 5) (pc' := 3007) (by decide +kernel) 3009 (by decide) rfl h1420) ?_
              refine XE.go (st_iconst (n := 0) (pc' := 3008) (by decide +kernel) (w_eq (by decide) (by decide)) rfl) ?_
              refine XE.cast (hx762 _) ?_
              exact XE.rt rfl (X_zret (by decide +kernel) rfl (by decide))
          · refine XE.go (st_if_ne_t (off := 15) (pc' := 3009) (by decide +kernel) (by decide) h1417) ?_
            refine XE.go (st_goto (off := 339) (pc' := 3348) (by decide +kernel) (by decide)) ?_
            refine XE.go (st_iinc (j := 4) (n := 6) (pc' := 3351) (by decide +kernel) rfl rfl (by decide) rfl rfl) ?_
            refine XE.go (st_goto (off := (-3328)) (pc' := 23) (by decide +kernel) (by decide)) ?_
            exact XE.pick [3, 4, 5, 6, 0] rfl (hc760 ((w (s9.1 + 6)), r1412.2))
        · refine XE.go (st_icmp_eq_f (off := 5) (pc' := 2990) (by decide +kernel) 2992 (by decide) rfl h1415) ?_
          refine XE.go (st_iconst (n := 0) (pc' := 2991) (by decide +kernel) (w_eq (by decide) (by decide)) rfl) ?_
          refine XE.cast (hx762 _) ?_
          exact XE.rt rfl (X_zret (by decide +kernel) rfl (by decide))
      refine XE.bite (fun h1421 => ?_) (fun h1422 => ?_)
      · refine XE.go (st_tab_in (dflt := 3308) (lo := 0) (hi := 44) (offs := #[196, 292, 372, 428, 484, 540, 596, 652, 708, 752, 820, 912, 1004, 1108, 1176, 1232, 1312, 1368, 1424, 1480, 1536, 1604, 1672, 1752, 1820, 1900, 1980, 2048, 2128, 2196, 2264, 2332, 2412, 2480, 2548, 2640, 2720, 2800, 2892, 2972, 3040, 3108, 3164, 3232, 3295]) (len := 196) (off := 2972) (pc' := 3012) (by decide +kernel) 39 h1421 (by decide) (by decide) (by decide) (by decide)) ?_
        unfold c_L_39
        refine XE.go (st_aload_n (j := 1) (i := 1) (pc' := 3013) (by decide +kernel) rfl rfl (by decide) rfl) ?_
        refine XE.go (st_aload_n (j := 0) (i := 0) (pc' := 3014) (by decide +kernel) rfl rfl (by decide) rfl) ?_
        refine XE.go (st_iload (j := 4) (pc' := 3016) (by decide +kernel) rfl rfl) ?_
        refine XE.go (st_iconst (n := 1) (pc' := 3017) (by decide +kernel) (w_eq (by decide) (by decide)) rfl) ?_
        refine XE.go (st_iadd (pc' := 3018) (by decide +kernel) rfl) ?_
        refine XE.gdb (fun g1423 => ?_)
        refine XE.go (st_sld (pc' := 3019) (by decide +kernel) rfl g1423.1 g1423.2) ?_
        refine XE.go (st_aload_n (j := 0) (i := 0) (pc' := 3020) (by decide +kernel) rfl rfl (by decide) rfl) ?_
        refine XE.go (st_iload (j := 4) (pc' := 3022) (by decide +kernel) rfl rfl) ?_
        refine XE.go (st_iconst (n := 2) (pc' := 3023) (by decide +kernel) (w_eq (by decide) (by decide)) rfl) ?_
        refine XE.go (st_iadd (pc' := 3024) (by decide +kernel) rfl) ?_
        refine XE.gdb (fun g1424 => ?_)
        refine XE.go (st_sld (pc' := 3025) (by decide +kernel) rfl g1424.1 g1424.2) ?_
        refine XE.go (st_aload_n (j := 3) (i := 3) (pc' := 3026) (by decide +kernel) rfl rfl (by decide) rfl) ?_
        refine XE.asc ?_
        refine XE.cW1 (pc' := 3029) (st := []) (fun r hr => ct_L_dead r hr) (fun r hr => run_S (st := []) (by decide +kernel) co_L_law_288 (ct_L_dead r hr) rfl rfl (Nat.le_of_ble_eq_true rfl)) rfl rfl (fun r1425 => ?_)
        refine XE.go (st_istore (j := 5) (pc' := 3031) (by decide +kernel)  rfl (by decide) rfl rfl) ?_
        refine XE.go (st_aload_n (j := 2) (i := 2) (pc' := 3032) (by decide +kernel) rfl rfl (by decide) rfl) ?_
        refine XE.go (st_aload_n (j := 0) (i := 0) (pc' := 3033) (by decide +kernel) rfl rfl (by decide) rfl) ?_
        refine XE.go (st_iload (j := 4) (pc' := 3035) (by decide +kernel) rfl rfl) ?_
        refine XE.go (st_iconst (n := 1) (pc' := 3036) (by decide +kernel) (w_eq (by decide) (by decide)) rfl) ?_
        refine XE.go (st_iadd (pc' := 3037) (by decide +kernel) rfl) ?_
        refine XE.gdb (fun g1426 => ?_)
        refine XE.go (st_sld (pc' := 3038) (by decide +kernel) rfl g1426.1 g1426.2) ?_
        refine XE.go (st_aload_n (j := 0) (i := 0) (pc' := 3039) (by decide +kernel) rfl rfl (by decide) rfl) ?_
        refine XE.go (st_iload (j := 4) (pc' := 3041) (by decide +kernel) rfl rfl) ?_
        refine XE.go (st_iconst (n := 2) (pc' := 3042) (by decide +kernel) (w_eq (by decide) (by decide)) rfl) ?_
        refine XE.go (st_iadd (pc' := 3043) (by decide +kernel) rfl) ?_
        refine XE.gdb (fun g1427 => ?_)
        refine XE.go (st_sld (pc' := 3044) (by decide +kernel) rfl g1427.1 g1427.2) ?_
        refine XE.asc ?_
        refine XE.cW (pc' := 3047) (st := []) (fun r hr => ct_X11_dead h5 r hr) (fun r hr => run_V (st := []) (by decide +kernel) co_L_law_290 (ct_X11_dead h5 r hr) rfl h5 rfl rfl (Nat.le_of_ble_eq_true rfl)) rfl rfl (fun r1428 => ?_)
        refine XE.go (st_istore (j := 6) (pc' := 3049) (by decide +kernel)  rfl (by decide) rfl rfl) ?_
        refine XE.go (st_aload_n (j := 2) (i := 2) (pc' := 3050) (by decide +kernel) rfl rfl (by decide) rfl) ?_
        refine XE.asc ?_
        refine XE.cP (pc' := 3053) (st := []) (fun r hr => ct_X11_thrown h5 r hr) (fun r hr => run_V (st := []) (by decide +kernel) co_L_law_165 (ct_X11_thrown h5 r hr) rfl h5 rfl rfl (Nat.le_of_ble_eq_true rfl)) rfl rfl (fun r1429 => ?_)
        refine XE.go (st_iload (j := 5) (pc' := 3055) (by decide +kernel) rfl rfl) ?_
        refine XE.bite (fun h1430 => ?_) (fun h1431 => ?_)
        · refine XE.go (st_icmp_eq_t (off := 5) (pc' := 3060) (by decide +kernel) (by decide) h1430) ?_
          refine XE.go (st_iload (j := 5) (pc' := 3062) (by decide +kernel) rfl rfl) ?_
          refine XE.bite (fun h1432 => ?_) (fun h1433 => ?_)
          · refine XE.go (st_if_ne_f (off := 15) (pc' := 3065) (by decide +kernel) 3077 (by decide) rfl (not_not_intro h1432)) ?_
            refine XE.go (st_aload_n (j := 3) (i := 3) (pc' := 3066) (by decide +kernel) rfl rfl (by decide) rfl) ?_
            refine XE.go (st_iconst (n := 0) (pc' := 3067) (by decide +kernel) (w_eq (by decide) (by decide)) rfl) ?_
            refine XE.gdb (fun g1434 => ?_)
            refine XE.go (st_ald (k := 15) (tp := 2) (pc' := 3068) (by decide +kernel) rfl ak_15 rfl (by decide) rfl (Or.inr (Or.inr (Or.inl ⟨rfl, rfl⟩))) g1434.1 g1434.2.1 g1434.2.2) ?_
            refine XE.go (st_iload (j := 6) (pc' := 3070) (by decide +kernel) rfl rfl) ?_
            refine XE.go (st_i2l (pc' := 3071) (by decide +kernel) rfl) ?_
            refine XE.go (st_lcmp (pc' := 3072) (by decide +kernel) rfl) ?_
            refine XE.bite (fun h1435 => ?_) (fun h1436 => ?_)
            · refine XE.go (st_if_eq_t (off := 5) (pc' := 3077) (by decide +kernel) (by decide) h1435) ?_
              refine XE.go (st_goto (off := 271) (pc' := 3348) (by decide +kernel) (by decide)) ?_
              refine XE.go (st_iinc (j := 4) (n := 6) (pc' := 3351) (by decide +kernel) rfl rfl (by decide) rfl rfl) ?_
              refine XE.go (st_goto (off := (-3328)) (pc' := 23) (by decide +kernel) (by decide)) ?_
              exact XE.pick [3, 4, 5, 6, 0] rfl (hc760 ((w (s9.1 + 6)), r1428.2))
            · refine XE.go (st_if_eq_f (off := 5) (pc' := 3075) (by decide +kernel) 3077 (by decide) rfl h1436) ?_
              refine XE.go (st_iconst (n := 0) (pc' := 3076) (by decide +kernel) (w_eq (by decide) (by decide)) rfl) ?_
              refine XE.cast (hx762 _) ?_
              exact XE.rt rfl (X_zret (by decide +kernel) rfl (by decide))
          · refine XE.go (st_if_ne_t (off := 15) (pc' := 3077) (by decide +kernel) (by decide) h1433) ?_
            refine XE.go (st_goto (off := 271) (pc' := 3348) (by decide +kernel) (by decide)) ?_
            refine XE.go (st_iinc (j := 4) (n := 6) (pc' := 3351) (by decide +kernel) rfl rfl (by decide) rfl rfl) ?_
            refine XE.go (st_goto (off := (-3328)) (pc' := 23) (by decide +kernel) (by decide)) ?_
            exact XE.pick [3, 4, 5, 6, 0] rfl (hc760 ((w (s9.1 + 6)), r1428.2))
        · refine XE.go (st_icmp_eq_f (off := 5) (pc' := 3058) (by decide +kernel) 3060 (by decide) rfl h1431) ?_
          refine XE.go (st_iconst (n := 0) (pc' := 3059) (by decide +kernel) (w_eq (by decide) (by decide)) rfl) ?_
          refine XE.cast (hx762 _) ?_
          exact XE.rt rfl (X_zret (by decide +kernel) rfl (by decide))
      refine XE.bite (fun h1437 => ?_) (fun h1438 => ?_)
      · refine XE.go (st_tab_in (dflt := 3308) (lo := 0) (hi := 44) (offs := #[196, 292, 372, 428, 484, 540, 596, 652, 708, 752, 820, 912, 1004, 1108, 1176, 1232, 1312, 1368, 1424, 1480, 1536, 1604, 1672, 1752, 1820, 1900, 1980, 2048, 2128, 2196, 2264, 2332, 2412, 2480, 2548, 2640, 2720, 2800, 2892, 2972, 3040, 3108, 3164, 3232, 3295]) (len := 196) (off := 3040) (pc' := 3080) (by decide +kernel) 40 h1437 (by decide) (by decide) (by decide) (by decide)) ?_
        unfold c_L_40
        refine XE.go (st_aload_n (j := 1) (i := 1) (pc' := 3081) (by decide +kernel) rfl rfl (by decide) rfl) ?_
        refine XE.go (st_aload_n (j := 0) (i := 0) (pc' := 3082) (by decide +kernel) rfl rfl (by decide) rfl) ?_
        refine XE.go (st_iload (j := 4) (pc' := 3084) (by decide +kernel) rfl rfl) ?_
        refine XE.go (st_iconst (n := 1) (pc' := 3085) (by decide +kernel) (w_eq (by decide) (by decide)) rfl) ?_
        refine XE.go (st_iadd (pc' := 3086) (by decide +kernel) rfl) ?_
        refine XE.gdb (fun g1439 => ?_)
        refine XE.go (st_sld (pc' := 3087) (by decide +kernel) rfl g1439.1 g1439.2) ?_
        refine XE.go (st_aload_n (j := 0) (i := 0) (pc' := 3088) (by decide +kernel) rfl rfl (by decide) rfl) ?_
        refine XE.go (st_iload (j := 4) (pc' := 3090) (by decide +kernel) rfl rfl) ?_
        refine XE.go (st_iconst (n := 2) (pc' := 3091) (by decide +kernel) (w_eq (by decide) (by decide)) rfl) ?_
        refine XE.go (st_iadd (pc' := 3092) (by decide +kernel) rfl) ?_
        refine XE.gdb (fun g1440 => ?_)
        refine XE.go (st_sld (pc' := 3093) (by decide +kernel) rfl g1440.1 g1440.2) ?_
        refine XE.go (st_aload_n (j := 3) (i := 3) (pc' := 3094) (by decide +kernel) rfl rfl (by decide) rfl) ?_
        refine XE.asc ?_
        refine XE.cW1 (pc' := 3097) (st := []) (fun r hr => ct_L_seen r hr) (fun r hr => run_S (st := []) (by decide +kernel) co_L_law_291 (ct_L_seen r hr) rfl rfl (Nat.le_of_ble_eq_true rfl)) rfl rfl (fun r1441 => ?_)
        refine XE.go (st_istore (j := 5) (pc' := 3099) (by decide +kernel)  rfl (by decide) rfl rfl) ?_
        refine XE.go (st_aload_n (j := 2) (i := 2) (pc' := 3100) (by decide +kernel) rfl rfl (by decide) rfl) ?_
        refine XE.go (st_aload_n (j := 0) (i := 0) (pc' := 3101) (by decide +kernel) rfl rfl (by decide) rfl) ?_
        refine XE.go (st_iload (j := 4) (pc' := 3103) (by decide +kernel) rfl rfl) ?_
        refine XE.go (st_iconst (n := 1) (pc' := 3104) (by decide +kernel) (w_eq (by decide) (by decide)) rfl) ?_
        refine XE.go (st_iadd (pc' := 3105) (by decide +kernel) rfl) ?_
        refine XE.gdb (fun g1442 => ?_)
        refine XE.go (st_sld (pc' := 3106) (by decide +kernel) rfl g1442.1 g1442.2) ?_
        refine XE.go (st_aload_n (j := 0) (i := 0) (pc' := 3107) (by decide +kernel) rfl rfl (by decide) rfl) ?_
        refine XE.go (st_iload (j := 4) (pc' := 3109) (by decide +kernel) rfl rfl) ?_
        refine XE.go (st_iconst (n := 2) (pc' := 3110) (by decide +kernel) (w_eq (by decide) (by decide)) rfl) ?_
        refine XE.go (st_iadd (pc' := 3111) (by decide +kernel) rfl) ?_
        refine XE.gdb (fun g1443 => ?_)
        refine XE.go (st_sld (pc' := 3112) (by decide +kernel) rfl g1443.1 g1443.2) ?_
        refine XE.asc ?_
        refine XE.cW (pc' := 3115) (st := []) (fun r hr => ct_X11_seen h5 r hr) (fun r hr => run_V (st := []) (by decide +kernel) co_L_law_293 (ct_X11_seen h5 r hr) rfl h5 rfl rfl (Nat.le_of_ble_eq_true rfl)) rfl rfl (fun r1444 => ?_)
        refine XE.go (st_istore (j := 6) (pc' := 3117) (by decide +kernel)  rfl (by decide) rfl rfl) ?_
        refine XE.go (st_aload_n (j := 2) (i := 2) (pc' := 3118) (by decide +kernel) rfl rfl (by decide) rfl) ?_
        refine XE.asc ?_
        refine XE.cP (pc' := 3121) (st := []) (fun r hr => ct_X11_thrown h5 r hr) (fun r hr => run_V (st := []) (by decide +kernel) co_L_law_165 (ct_X11_thrown h5 r hr) rfl h5 rfl rfl (Nat.le_of_ble_eq_true rfl)) rfl rfl (fun r1445 => ?_)
        refine XE.go (st_iload (j := 5) (pc' := 3123) (by decide +kernel) rfl rfl) ?_
        refine XE.bite (fun h1446 => ?_) (fun h1447 => ?_)
        · refine XE.go (st_icmp_eq_t (off := 5) (pc' := 3128) (by decide +kernel) (by decide) h1446) ?_
          refine XE.go (st_iload (j := 5) (pc' := 3130) (by decide +kernel) rfl rfl) ?_
          refine XE.bite (fun h1448 => ?_) (fun h1449 => ?_)
          · refine XE.go (st_if_ne_f (off := 15) (pc' := 3133) (by decide +kernel) 3145 (by decide) rfl (not_not_intro h1448)) ?_
            refine XE.go (st_aload_n (j := 3) (i := 3) (pc' := 3134) (by decide +kernel) rfl rfl (by decide) rfl) ?_
            refine XE.go (st_iconst (n := 0) (pc' := 3135) (by decide +kernel) (w_eq (by decide) (by decide)) rfl) ?_
            refine XE.gdb (fun g1450 => ?_)
            refine XE.go (st_ald (k := 15) (tp := 2) (pc' := 3136) (by decide +kernel) rfl ak_15 rfl (by decide) rfl (Or.inr (Or.inr (Or.inl ⟨rfl, rfl⟩))) g1450.1 g1450.2.1 g1450.2.2) ?_
            refine XE.go (st_iload (j := 6) (pc' := 3138) (by decide +kernel) rfl rfl) ?_
            refine XE.go (st_i2l (pc' := 3139) (by decide +kernel) rfl) ?_
            refine XE.go (st_lcmp (pc' := 3140) (by decide +kernel) rfl) ?_
            refine XE.bite (fun h1451 => ?_) (fun h1452 => ?_)
            · refine XE.go (st_if_eq_t (off := 5) (pc' := 3145) (by decide +kernel) (by decide) h1451) ?_
              refine XE.go (st_goto (off := 203) (pc' := 3348) (by decide +kernel) (by decide)) ?_
              refine XE.go (st_iinc (j := 4) (n := 6) (pc' := 3351) (by decide +kernel) rfl rfl (by decide) rfl rfl) ?_
              refine XE.go (st_goto (off := (-3328)) (pc' := 23) (by decide +kernel) (by decide)) ?_
              exact XE.pick [3, 4, 5, 6, 0] rfl (hc760 ((w (s9.1 + 6)), r1444.2))
            · refine XE.go (st_if_eq_f (off := 5) (pc' := 3143) (by decide +kernel) 3145 (by decide) rfl h1452) ?_
              refine XE.go (st_iconst (n := 0) (pc' := 3144) (by decide +kernel) (w_eq (by decide) (by decide)) rfl) ?_
              refine XE.cast (hx762 _) ?_
              exact XE.rt rfl (X_zret (by decide +kernel) rfl (by decide))
          · refine XE.go (st_if_ne_t (off := 15) (pc' := 3145) (by decide +kernel) (by decide) h1449) ?_
            refine XE.go (st_goto (off := 203) (pc' := 3348) (by decide +kernel) (by decide)) ?_
            refine XE.go (st_iinc (j := 4) (n := 6) (pc' := 3351) (by decide +kernel) rfl rfl (by decide) rfl rfl) ?_
            refine XE.go (st_goto (off := (-3328)) (pc' := 23) (by decide +kernel) (by decide)) ?_
            exact XE.pick [3, 4, 5, 6, 0] rfl (hc760 ((w (s9.1 + 6)), r1444.2))
        · refine XE.go (st_icmp_eq_f (off := 5) (pc' := 3126) (by decide +kernel) 3128 (by decide) rfl h1447) ?_
          refine XE.go (st_iconst (n := 0) (pc' := 3127) (by decide +kernel) (w_eq (by decide) (by decide)) rfl) ?_
          refine XE.cast (hx762 _) ?_
          exact XE.rt rfl (X_zret (by decide +kernel) rfl (by decide))
      refine XE.bite (fun h1453 => ?_) (fun h1454 => ?_)
      · refine XE.go (st_tab_in (dflt := 3308) (lo := 0) (hi := 44) (offs := #[196, 292, 372, 428, 484, 540, 596, 652, 708, 752, 820, 912, 1004, 1108, 1176, 1232, 1312, 1368, 1424, 1480, 1536, 1604, 1672, 1752, 1820, 1900, 1980, 2048, 2128, 2196, 2264, 2332, 2412, 2480, 2548, 2640, 2720, 2800, 2892, 2972, 3040, 3108, 3164, 3232, 3295]) (len := 196) (off := 3108) (pc' := 3148) (by decide +kernel) 41 h1453 (by decide) (by decide) (by decide) (by decide)) ?_
        unfold c_L_41
        refine XE.go (st_aload_n (j := 1) (i := 1) (pc' := 3149) (by decide +kernel) rfl rfl (by decide) rfl) ?_
        refine XE.go (st_aload_n (j := 0) (i := 0) (pc' := 3150) (by decide +kernel) rfl rfl (by decide) rfl) ?_
        refine XE.go (st_iload (j := 4) (pc' := 3152) (by decide +kernel) rfl rfl) ?_
        refine XE.go (st_iconst (n := 1) (pc' := 3153) (by decide +kernel) (w_eq (by decide) (by decide)) rfl) ?_
        refine XE.go (st_iadd (pc' := 3154) (by decide +kernel) rfl) ?_
        refine XE.gdb (fun g1455 => ?_)
        refine XE.go (st_sld (pc' := 3155) (by decide +kernel) rfl g1455.1 g1455.2) ?_
        refine XE.go (st_aload_n (j := 3) (i := 3) (pc' := 3156) (by decide +kernel) rfl rfl (by decide) rfl) ?_
        refine XE.asc ?_
        refine XE.cW1 (pc' := 3159) (st := []) (fun r hr => ct_L_count r hr) (fun r hr => run_S (st := []) (by decide +kernel) co_L_law_294 (ct_L_count r hr) rfl rfl (Nat.le_of_ble_eq_true rfl)) rfl rfl (fun r1456 => ?_)
        refine XE.go (st_istore (j := 5) (pc' := 3161) (by decide +kernel)  rfl (by decide) rfl rfl) ?_
        refine XE.go (st_aload_n (j := 2) (i := 2) (pc' := 3162) (by decide +kernel) rfl rfl (by decide) rfl) ?_
        refine XE.go (st_aload_n (j := 0) (i := 0) (pc' := 3163) (by decide +kernel) rfl rfl (by decide) rfl) ?_
        refine XE.go (st_iload (j := 4) (pc' := 3165) (by decide +kernel) rfl rfl) ?_
        refine XE.go (st_iconst (n := 1) (pc' := 3166) (by decide +kernel) (w_eq (by decide) (by decide)) rfl) ?_
        refine XE.go (st_iadd (pc' := 3167) (by decide +kernel) rfl) ?_
        refine XE.gdb (fun g1457 => ?_)
        refine XE.go (st_sld (pc' := 3168) (by decide +kernel) rfl g1457.1 g1457.2) ?_
        refine XE.asc ?_
        refine XE.cW (pc' := 3171) (st := []) (fun r hr => ct_X11_count h5 r hr) (fun r hr => run_V (st := []) (by decide +kernel) co_L_law_296 (ct_X11_count h5 r hr) rfl h5 rfl rfl (Nat.le_of_ble_eq_true rfl)) rfl rfl (fun r1458 => ?_)
        refine XE.go (st_istore (j := 6) (pc' := 3173) (by decide +kernel)  rfl (by decide) rfl rfl) ?_
        refine XE.go (st_aload_n (j := 2) (i := 2) (pc' := 3174) (by decide +kernel) rfl rfl (by decide) rfl) ?_
        refine XE.asc ?_
        refine XE.cP (pc' := 3177) (st := []) (fun r hr => ct_X11_thrown h5 r hr) (fun r hr => run_V (st := []) (by decide +kernel) co_L_law_165 (ct_X11_thrown h5 r hr) rfl h5 rfl rfl (Nat.le_of_ble_eq_true rfl)) rfl rfl (fun r1459 => ?_)
        refine XE.go (st_iload (j := 5) (pc' := 3179) (by decide +kernel) rfl rfl) ?_
        refine XE.bite (fun h1460 => ?_) (fun h1461 => ?_)
        · refine XE.go (st_icmp_eq_t (off := 5) (pc' := 3184) (by decide +kernel) (by decide) h1460) ?_
          refine XE.go (st_iload (j := 5) (pc' := 3186) (by decide +kernel) rfl rfl) ?_
          refine XE.bite (fun h1462 => ?_) (fun h1463 => ?_)
          · refine XE.go (st_if_ne_f (off := 15) (pc' := 3189) (by decide +kernel) 3201 (by decide) rfl (not_not_intro h1462)) ?_
            refine XE.go (st_aload_n (j := 3) (i := 3) (pc' := 3190) (by decide +kernel) rfl rfl (by decide) rfl) ?_
            refine XE.go (st_iconst (n := 0) (pc' := 3191) (by decide +kernel) (w_eq (by decide) (by decide)) rfl) ?_
            refine XE.gdb (fun g1464 => ?_)
            refine XE.go (st_ald (k := 15) (tp := 2) (pc' := 3192) (by decide +kernel) rfl ak_15 rfl (by decide) rfl (Or.inr (Or.inr (Or.inl ⟨rfl, rfl⟩))) g1464.1 g1464.2.1 g1464.2.2) ?_
            refine XE.go (st_iload (j := 6) (pc' := 3194) (by decide +kernel) rfl rfl) ?_
            refine XE.go (st_i2l (pc' := 3195) (by decide +kernel) rfl) ?_
            refine XE.go (st_lcmp (pc' := 3196) (by decide +kernel) rfl) ?_
            refine XE.bite (fun h1465 => ?_) (fun h1466 => ?_)
            · refine XE.go (st_if_eq_t (off := 5) (pc' := 3201) (by decide +kernel) (by decide) h1465) ?_
              refine XE.go (st_goto (off := 147) (pc' := 3348) (by decide +kernel) (by decide)) ?_
              refine XE.go (st_iinc (j := 4) (n := 6) (pc' := 3351) (by decide +kernel) rfl rfl (by decide) rfl rfl) ?_
              refine XE.go (st_goto (off := (-3328)) (pc' := 23) (by decide +kernel) (by decide)) ?_
              exact XE.pick [3, 4, 5, 6, 0] rfl (hc760 ((w (s9.1 + 6)), r1458.2))
            · refine XE.go (st_if_eq_f (off := 5) (pc' := 3199) (by decide +kernel) 3201 (by decide) rfl h1466) ?_
              refine XE.go (st_iconst (n := 0) (pc' := 3200) (by decide +kernel) (w_eq (by decide) (by decide)) rfl) ?_
              refine XE.cast (hx762 _) ?_
              exact XE.rt rfl (X_zret (by decide +kernel) rfl (by decide))
          · refine XE.go (st_if_ne_t (off := 15) (pc' := 3201) (by decide +kernel) (by decide) h1463) ?_
            refine XE.go (st_goto (off := 147) (pc' := 3348) (by decide +kernel) (by decide)) ?_
            refine XE.go (st_iinc (j := 4) (n := 6) (pc' := 3351) (by decide +kernel) rfl rfl (by decide) rfl rfl) ?_
            refine XE.go (st_goto (off := (-3328)) (pc' := 23) (by decide +kernel) (by decide)) ?_
            exact XE.pick [3, 4, 5, 6, 0] rfl (hc760 ((w (s9.1 + 6)), r1458.2))
        · refine XE.go (st_icmp_eq_f (off := 5) (pc' := 3182) (by decide +kernel) 3184 (by decide) rfl h1461) ?_
          refine XE.go (st_iconst (n := 0) (pc' := 3183) (by decide +kernel) (w_eq (by decide) (by decide)) rfl) ?_
          refine XE.cast (hx762 _) ?_
          exact XE.rt rfl (X_zret (by decide +kernel) rfl (by decide))
      refine XE.bite (fun h1467 => ?_) (fun h1468 => ?_)
      · refine XE.go (st_tab_in (dflt := 3308) (lo := 0) (hi := 44) (offs := #[196, 292, 372, 428, 484, 540, 596, 652, 708, 752, 820, 912, 1004, 1108, 1176, 1232, 1312, 1368, 1424, 1480, 1536, 1604, 1672, 1752, 1820, 1900, 1980, 2048, 2128, 2196, 2264, 2332, 2412, 2480, 2548, 2640, 2720, 2800, 2892, 2972, 3040, 3108, 3164, 3232, 3295]) (len := 196) (off := 3164) (pc' := 3204) (by decide +kernel) 42 h1467 (by decide) (by decide) (by decide) (by decide)) ?_
        unfold c_L_42
        refine XE.go (st_aload_n (j := 1) (i := 1) (pc' := 3205) (by decide +kernel) rfl rfl (by decide) rfl) ?_
        refine XE.go (st_aload_n (j := 0) (i := 0) (pc' := 3206) (by decide +kernel) rfl rfl (by decide) rfl) ?_
        refine XE.go (st_iload (j := 4) (pc' := 3208) (by decide +kernel) rfl rfl) ?_
        refine XE.go (st_iconst (n := 1) (pc' := 3209) (by decide +kernel) (w_eq (by decide) (by decide)) rfl) ?_
        refine XE.go (st_iadd (pc' := 3210) (by decide +kernel) rfl) ?_
        refine XE.gdb (fun g1469 => ?_)
        refine XE.go (st_sld (pc' := 3211) (by decide +kernel) rfl g1469.1 g1469.2) ?_
        refine XE.go (st_aload_n (j := 0) (i := 0) (pc' := 3212) (by decide +kernel) rfl rfl (by decide) rfl) ?_
        refine XE.go (st_iload (j := 4) (pc' := 3214) (by decide +kernel) rfl rfl) ?_
        refine XE.go (st_iconst (n := 2) (pc' := 3215) (by decide +kernel) (w_eq (by decide) (by decide)) rfl) ?_
        refine XE.go (st_iadd (pc' := 3216) (by decide +kernel) rfl) ?_
        refine XE.gdb (fun g1470 => ?_)
        refine XE.go (st_sld (pc' := 3217) (by decide +kernel) rfl g1470.1 g1470.2) ?_
        refine XE.go (st_aload_n (j := 3) (i := 3) (pc' := 3218) (by decide +kernel) rfl rfl (by decide) rfl) ?_
        refine XE.asc ?_
        refine XE.cW1 (pc' := 3221) (st := []) (fun r hr => ct_L_ofGroup r hr) (fun r hr => run_S (st := []) (by decide +kernel) co_L_law_297 (ct_L_ofGroup r hr) rfl rfl (Nat.le_of_ble_eq_true rfl)) rfl rfl (fun r1471 => ?_)
        refine XE.go (st_istore (j := 5) (pc' := 3223) (by decide +kernel)  rfl (by decide) rfl rfl) ?_
        refine XE.go (st_aload_n (j := 2) (i := 2) (pc' := 3224) (by decide +kernel) rfl rfl (by decide) rfl) ?_
        refine XE.go (st_aload_n (j := 0) (i := 0) (pc' := 3225) (by decide +kernel) rfl rfl (by decide) rfl) ?_
        refine XE.go (st_iload (j := 4) (pc' := 3227) (by decide +kernel) rfl rfl) ?_
        refine XE.go (st_iconst (n := 1) (pc' := 3228) (by decide +kernel) (w_eq (by decide) (by decide)) rfl) ?_
        refine XE.go (st_iadd (pc' := 3229) (by decide +kernel) rfl) ?_
        refine XE.gdb (fun g1472 => ?_)
        refine XE.go (st_sld (pc' := 3230) (by decide +kernel) rfl g1472.1 g1472.2) ?_
        refine XE.go (st_aload_n (j := 0) (i := 0) (pc' := 3231) (by decide +kernel) rfl rfl (by decide) rfl) ?_
        refine XE.go (st_iload (j := 4) (pc' := 3233) (by decide +kernel) rfl rfl) ?_
        refine XE.go (st_iconst (n := 2) (pc' := 3234) (by decide +kernel) (w_eq (by decide) (by decide)) rfl) ?_
        refine XE.go (st_iadd (pc' := 3235) (by decide +kernel) rfl) ?_
        refine XE.gdb (fun g1473 => ?_)
        refine XE.go (st_sld (pc' := 3236) (by decide +kernel) rfl g1473.1 g1473.2) ?_
        refine XE.asc ?_
        refine XE.cW (pc' := 3239) (st := []) (fun r hr => ct_X11_ofGroup h5 r hr) (fun r hr => run_V (st := []) (by decide +kernel) co_L_law_299 (ct_X11_ofGroup h5 r hr) rfl h5 rfl rfl (Nat.le_of_ble_eq_true rfl)) rfl rfl (fun r1474 => ?_)
        refine XE.go (st_istore (j := 6) (pc' := 3241) (by decide +kernel)  rfl (by decide) rfl rfl) ?_
        refine XE.go (st_aload_n (j := 2) (i := 2) (pc' := 3242) (by decide +kernel) rfl rfl (by decide) rfl) ?_
        refine XE.asc ?_
        refine XE.cP (pc' := 3245) (st := []) (fun r hr => ct_X11_thrown h5 r hr) (fun r hr => run_V (st := []) (by decide +kernel) co_L_law_165 (ct_X11_thrown h5 r hr) rfl h5 rfl rfl (Nat.le_of_ble_eq_true rfl)) rfl rfl (fun r1475 => ?_)
        refine XE.go (st_iload (j := 5) (pc' := 3247) (by decide +kernel) rfl rfl) ?_
        refine XE.bite (fun h1476 => ?_) (fun h1477 => ?_)
        · refine XE.go (st_icmp_eq_t (off := 5) (pc' := 3252) (by decide +kernel) (by decide) h1476) ?_
          refine XE.go (st_iload (j := 5) (pc' := 3254) (by decide +kernel) rfl rfl) ?_
          refine XE.bite (fun h1478 => ?_) (fun h1479 => ?_)
          · refine XE.go (st_if_ne_f (off := 15) (pc' := 3257) (by decide +kernel) 3269 (by decide) rfl (not_not_intro h1478)) ?_
            refine XE.go (st_aload_n (j := 3) (i := 3) (pc' := 3258) (by decide +kernel) rfl rfl (by decide) rfl) ?_
            refine XE.go (st_iconst (n := 0) (pc' := 3259) (by decide +kernel) (w_eq (by decide) (by decide)) rfl) ?_
            refine XE.gdb (fun g1480 => ?_)
            refine XE.go (st_ald (k := 15) (tp := 2) (pc' := 3260) (by decide +kernel) rfl ak_15 rfl (by decide) rfl (Or.inr (Or.inr (Or.inl ⟨rfl, rfl⟩))) g1480.1 g1480.2.1 g1480.2.2) ?_
            refine XE.go (st_iload (j := 6) (pc' := 3262) (by decide +kernel) rfl rfl) ?_
            refine XE.go (st_i2l (pc' := 3263) (by decide +kernel) rfl) ?_
            refine XE.go (st_lcmp (pc' := 3264) (by decide +kernel) rfl) ?_
            refine XE.bite (fun h1481 => ?_) (fun h1482 => ?_)
            · refine XE.go (st_if_eq_t (off := 5) (pc' := 3269) (by decide +kernel) (by decide) h1481) ?_
              refine XE.go (st_goto (off := 79) (pc' := 3348) (by decide +kernel) (by decide)) ?_
              refine XE.go (st_iinc (j := 4) (n := 6) (pc' := 3351) (by decide +kernel) rfl rfl (by decide) rfl rfl) ?_
              refine XE.go (st_goto (off := (-3328)) (pc' := 23) (by decide +kernel) (by decide)) ?_
              exact XE.pick [3, 4, 5, 6, 0] rfl (hc760 ((w (s9.1 + 6)), r1474.2))
            · refine XE.go (st_if_eq_f (off := 5) (pc' := 3267) (by decide +kernel) 3269 (by decide) rfl h1482) ?_
              refine XE.go (st_iconst (n := 0) (pc' := 3268) (by decide +kernel) (w_eq (by decide) (by decide)) rfl) ?_
              refine XE.cast (hx762 _) ?_
              exact XE.rt rfl (X_zret (by decide +kernel) rfl (by decide))
          · refine XE.go (st_if_ne_t (off := 15) (pc' := 3269) (by decide +kernel) (by decide) h1479) ?_
            refine XE.go (st_goto (off := 79) (pc' := 3348) (by decide +kernel) (by decide)) ?_
            refine XE.go (st_iinc (j := 4) (n := 6) (pc' := 3351) (by decide +kernel) rfl rfl (by decide) rfl rfl) ?_
            refine XE.go (st_goto (off := (-3328)) (pc' := 23) (by decide +kernel) (by decide)) ?_
            exact XE.pick [3, 4, 5, 6, 0] rfl (hc760 ((w (s9.1 + 6)), r1474.2))
        · refine XE.go (st_icmp_eq_f (off := 5) (pc' := 3250) (by decide +kernel) 3252 (by decide) rfl h1477) ?_
          refine XE.go (st_iconst (n := 0) (pc' := 3251) (by decide +kernel) (w_eq (by decide) (by decide)) rfl) ?_
          refine XE.cast (hx762 _) ?_
          exact XE.rt rfl (X_zret (by decide +kernel) rfl (by decide))
      refine XE.bite (fun h1483 => ?_) (fun h1484 => ?_)
      · refine XE.go (st_tab_in (dflt := 3308) (lo := 0) (hi := 44) (offs := #[196, 292, 372, 428, 484, 540, 596, 652, 708, 752, 820, 912, 1004, 1108, 1176, 1232, 1312, 1368, 1424, 1480, 1536, 1604, 1672, 1752, 1820, 1900, 1980, 2048, 2128, 2196, 2264, 2332, 2412, 2480, 2548, 2640, 2720, 2800, 2892, 2972, 3040, 3108, 3164, 3232, 3295]) (len := 196) (off := 3232) (pc' := 3272) (by decide +kernel) 43 h1483 (by decide) (by decide) (by decide) (by decide)) ?_
        unfold c_L_43
        refine XE.go (st_aload_n (j := 1) (i := 1) (pc' := 3273) (by decide +kernel) rfl rfl (by decide) rfl) ?_
        refine XE.go (st_aload_n (j := 0) (i := 0) (pc' := 3274) (by decide +kernel) rfl rfl (by decide) rfl) ?_
        refine XE.go (st_iload (j := 4) (pc' := 3276) (by decide +kernel) rfl rfl) ?_
        refine XE.go (st_iconst (n := 1) (pc' := 3277) (by decide +kernel) (w_eq (by decide) (by decide)) rfl) ?_
        refine XE.go (st_iadd (pc' := 3278) (by decide +kernel) rfl) ?_
        refine XE.gdb (fun g1485 => ?_)
        refine XE.go (st_sld (pc' := 3279) (by decide +kernel) rfl g1485.1 g1485.2) ?_
        refine XE.go (st_aload_n (j := 3) (i := 3) (pc' := 3280) (by decide +kernel) rfl rfl (by decide) rfl) ?_
        refine XE.asc ?_
        refine XE.cW1 (pc' := 3283) (st := []) (fun r hr => ct_L_audit r hr) (fun r hr => run_S (st := []) (by decide +kernel) co_L_law_300 (ct_L_audit r hr) rfl rfl (Nat.le_of_ble_eq_true rfl)) rfl rfl (fun r1486 => ?_)
        refine XE.go (st_istore (j := 5) (pc' := 3285) (by decide +kernel)  rfl (by decide) rfl rfl) ?_
        refine XE.go (st_aload_n (j := 2) (i := 2) (pc' := 3286) (by decide +kernel) rfl rfl (by decide) rfl) ?_
        refine XE.go (st_aload_n (j := 0) (i := 0) (pc' := 3287) (by decide +kernel) rfl rfl (by decide) rfl) ?_
        refine XE.go (st_iload (j := 4) (pc' := 3289) (by decide +kernel) rfl rfl) ?_
        refine XE.go (st_iconst (n := 1) (pc' := 3290) (by decide +kernel) (w_eq (by decide) (by decide)) rfl) ?_
        refine XE.go (st_iadd (pc' := 3291) (by decide +kernel) rfl) ?_
        refine XE.gdb (fun g1487 => ?_)
        refine XE.go (st_sld (pc' := 3292) (by decide +kernel) rfl g1487.1 g1487.2) ?_
        refine XE.asc ?_
        refine XE.cW (pc' := 3295) (st := []) (fun r hr => ct_X11_audit h5 r hr) (fun r hr => run_V (st := []) (by decide +kernel) co_L_law_302 (ct_X11_audit h5 r hr) rfl h5 rfl rfl (Nat.le_of_ble_eq_true rfl)) rfl rfl (fun r1488 => ?_)
        refine XE.go (st_istore (j := 6) (pc' := 3297) (by decide +kernel)  rfl (by decide) rfl rfl) ?_
        refine XE.go (st_aload_n (j := 2) (i := 2) (pc' := 3298) (by decide +kernel) rfl rfl (by decide) rfl) ?_
        refine XE.asc ?_
        refine XE.cP (pc' := 3301) (st := []) (fun r hr => ct_X11_thrown h5 r hr) (fun r hr => run_V (st := []) (by decide +kernel) co_L_law_165 (ct_X11_thrown h5 r hr) rfl h5 rfl rfl (Nat.le_of_ble_eq_true rfl)) rfl rfl (fun r1489 => ?_)
        refine XE.go (st_iload (j := 5) (pc' := 3303) (by decide +kernel) rfl rfl) ?_
        refine XE.bite (fun h1490 => ?_) (fun h1491 => ?_)
        · refine XE.go (st_icmp_eq_t (off := 5) (pc' := 3308) (by decide +kernel) (by decide) h1490) ?_
          refine XE.go (st_iload (j := 5) (pc' := 3310) (by decide +kernel) rfl rfl) ?_
          refine XE.bite (fun h1492 => ?_) (fun h1493 => ?_)
          · refine XE.go (st_if_ne_f (off := 22) (pc' := 3313) (by decide +kernel) 3332 (by decide) rfl (not_not_intro h1492)) ?_
            refine XE.go (st_aload_n (j := 3) (i := 3) (pc' := 3314) (by decide +kernel) rfl rfl (by decide) rfl) ?_
            refine XE.go (st_iconst (n := 0) (pc' := 3315) (by decide +kernel) (w_eq (by decide) (by decide)) rfl) ?_
            refine XE.gdb (fun g1494 => ?_)
            refine XE.go (st_ald (k := 15) (tp := 2) (pc' := 3316) (by decide +kernel) rfl ak_15 rfl (by decide) rfl (Or.inr (Or.inr (Or.inl ⟨rfl, rfl⟩))) g1494.1 g1494.2.1 g1494.2.2) ?_
            refine XE.go (st_iload (j := 6) (pc' := 3318) (by decide +kernel) rfl rfl) ?_
            refine XE.asc ?_
            refine XE.join (pcJ := 3326) (LJ := fun (s1495 : Int) => [(0, (100, (-1))), (1, (14, 11000)), (2, (15, 12000)), (3, (18, 15000)), (4, (0, s9.1))]) (sJ := fun (s1495 : Int) => [(2, s1495), (2, (rd r1488.2 15000 0))]) (MJ := fun (s1495 : Int) => r1488.2) (fun kk1498 hk1496 => ?_) (fun s1495 => ?_)
            · refine XE.bite (fun h1499 => ?_) (fun h1500 => ?_)
              · refine XE.go (st_if_eq_t (off := 7) (pc' := 3325) (by decide +kernel) (by decide) h1499) ?_
                refine XE.go (st_lconst (n := 0) (z := 0) (pc' := 3326) (by decide +kernel) (by decide) (by decide) rfl) ?_
                exact XE.pick [2, 3, 4, 5, 6] rfl (hk1496 0)
              · refine XE.go (st_if_eq_f (off := 7) (pc' := 3321) (by decide +kernel) 3325 (by decide) rfl h1500) ?_
                refine XE.go (st_lconst (n := 1) (z := 1) (pc' := 3322) (by decide +kernel) (by decide) (by decide) rfl) ?_
                refine XE.go (st_goto (off := 4) (pc' := 3326) (by decide +kernel) (by decide)) ?_
                exact XE.pick [2, 3, 4, 5, 6] rfl (hk1496 1)
            · refine XE.go (st_lcmp (pc' := 3327) (by decide +kernel) rfl) ?_
              refine XE.bite (fun h1501 => ?_) (fun h1502 => ?_)
              · refine XE.go (st_if_eq_t (off := 5) (pc' := 3332) (by decide +kernel) (by decide) h1501) ?_
                refine XE.go (st_goto (off := 16) (pc' := 3348) (by decide +kernel) (by decide)) ?_
                refine XE.go (st_iinc (j := 4) (n := 6) (pc' := 3351) (by decide +kernel) rfl rfl (by decide) rfl rfl) ?_
                refine XE.go (st_goto (off := (-3328)) (pc' := 23) (by decide +kernel) (by decide)) ?_
                exact XE.pick [1, 2, 3, 4, 0] rfl (hc760 ((w (s9.1 + 6)), r1488.2))
              · refine XE.go (st_if_eq_f (off := 5) (pc' := 3330) (by decide +kernel) 3332 (by decide) rfl h1502) ?_
                refine XE.go (st_iconst (n := 0) (pc' := 3331) (by decide +kernel) (w_eq (by decide) (by decide)) rfl) ?_
                refine XE.cast (hx762 _) ?_
                exact XE.rt rfl (X_zret (by decide +kernel) rfl (by decide))
          · refine XE.go (st_if_ne_t (off := 22) (pc' := 3332) (by decide +kernel) (by decide) h1493) ?_
            refine XE.go (st_goto (off := 16) (pc' := 3348) (by decide +kernel) (by decide)) ?_
            refine XE.go (st_iinc (j := 4) (n := 6) (pc' := 3351) (by decide +kernel) rfl rfl (by decide) rfl rfl) ?_
            refine XE.go (st_goto (off := (-3328)) (pc' := 23) (by decide +kernel) (by decide)) ?_
            exact XE.pick [3, 4, 5, 6, 0] rfl (hc760 ((w (s9.1 + 6)), r1488.2))
        · refine XE.go (st_icmp_eq_f (off := 5) (pc' := 3306) (by decide +kernel) 3308 (by decide) rfl h1491) ?_
          refine XE.go (st_iconst (n := 0) (pc' := 3307) (by decide +kernel) (w_eq (by decide) (by decide)) rfl) ?_
          refine XE.cast (hx762 _) ?_
          exact XE.rt rfl (X_zret (by decide +kernel) rfl (by decide))
      refine XE.bite (fun h1503 => ?_) (fun h1504 => ?_)
      · refine XE.go (st_tab_in (dflt := 3308) (lo := 0) (hi := 44) (offs := #[196, 292, 372, 428, 484, 540, 596, 652, 708, 752, 820, 912, 1004, 1108, 1176, 1232, 1312, 1368, 1424, 1480, 1536, 1604, 1672, 1752, 1820, 1900, 1980, 2048, 2128, 2196, 2264, 2332, 2412, 2480, 2548, 2640, 2720, 2800, 2892, 2972, 3040, 3108, 3164, 3232, 3295]) (len := 196) (off := 3295) (pc' := 3335) (by decide +kernel) 44 h1503 (by decide) (by decide) (by decide) (by decide)) ?_
        unfold c_L_44
        refine XE.mono1 ?_
        refine XE.go (st_aload_n (j := 1) (i := 1) (pc' := 3336) (by decide +kernel) rfl rfl (by decide) rfl) ?_
        refine XE.asc ?_
        refine XE.cP (pc' := 3339) (st := []) (fun r hr => ct_X10_digest h2 r hr) (fun r hr => run_V (st := []) (by decide +kernel) co_L_law_303 (ct_X10_digest h2 r hr) rfl h2 rfl rfl (Nat.le_of_ble_eq_true rfl)) rfl rfl (fun r1505 => ?_)
        refine XE.go (st_aload_n (j := 2) (i := 2) (pc' := 3340) (by decide +kernel) rfl rfl (by decide) rfl) ?_
        refine XE.asc ?_
        refine XE.cW (pc' := 3343) (st := [(0, r1505)]) (fun r hr => ct_X11_digest h5 r hr) (fun r hr => run_V (st := [(0, r1505)]) (by decide +kernel) co_L_law_306 (ct_X11_digest h5 r hr) rfl h5 rfl rfl (Nat.le_of_ble_eq_true rfl)) rfl rfl (fun r1506 => ?_)
        refine XE.bite (fun h1507 => ?_) (fun h1508 => ?_)
        · refine XE.go (st_icmp_eq_t (off := 5) (pc' := 3348) (by decide +kernel) (by decide) h1507) ?_
          refine XE.go (st_iinc (j := 4) (n := 6) (pc' := 3351) (by decide +kernel) rfl rfl (by decide) rfl rfl) ?_
          refine XE.go (st_goto (off := (-3328)) (pc' := 23) (by decide +kernel) (by decide)) ?_
          exact XE.pick [1, 2, 3, 4, 0] rfl (hc760 ((w (s9.1 + 6)), r1506.2))
        · refine XE.go (st_icmp_eq_f (off := 5) (pc' := 3346) (by decide +kernel) 3348 (by decide) rfl h1508) ?_
          refine XE.go (st_iconst (n := 0) (pc' := 3347) (by decide +kernel) (w_eq (by decide) (by decide)) rfl) ?_
          refine XE.cast (hx762 _) ?_
          exact XE.rt rfl (X_zret (by decide +kernel) rfl (by decide))
      refine XE.go (st_tab_out (dflt := 3308) (lo := 0) (hi := 44) (offs := #[196, 292, 372, 428, 484, 540, 596, 652, 708, 752, 820, 912, 1004, 1108, 1176, 1232, 1312, 1368, 1424, 1480, 1536, 1604, 1672, 1752, 1820, 1900, 1980, 2048, 2128, 2196, 2264, 2332, 2412, 2480, 2548, 2640, 2720, 2800, 2892, 2972, 3040, 3108, 3164, 3232, 3295]) (len := 196) (pc' := 3348) (by decide +kernel) (by omega) (by decide)) ?_
      refine XE.mono1 ?_
      refine XE.go (st_iinc (j := 4) (n := 6) (pc' := 3351) (by decide +kernel) rfl rfl (by decide) rfl rfl) ?_
      refine XE.go (st_goto (off := (-3328)) (pc' := 23) (by decide +kernel) (by decide)) ?_
      exact XE.pick [1, 2, 3, 4, 0] rfl (hc760 ((w (s9.1 + 6)), s9.2))
  · refine XE.go (st_iconst (n := 1) (pc' := 3355) (by decide +kernel) (w_eq (by decide) (by decide)) rfl) ?_
    exact XE.rt rfl (X_zret (by decide +kernel) rfl (by decide))
theorem ct_L_law {D : Dt} {M : Mm} (r : (Int × Mm)) (hr : p_L_law M (D.2.2.2.2.2.1 : Int) (fun i => (D.2.2.2.2.2.2 i.toNat).toInt) = some r) : CT D 1000 mu_L_law [(100, (-1))] M (.inl (some (0, r.1))) r.2 := CT.of (by decide +kernel) rfl (Nat.le_of_ble_eq_true rfl) (xe_L_law r hr)
