/-! StageWalkerModel.first, for a guest and for a host -/
def fm_first1 (v_hgatp : Int32) (v_rights : Int32) (v_code : Int32) (v_wanted : Int64) (v_ofEntry : Int32) (m_memory : Nat → Int32) (a0 : Int32) (a1 : Int64) (a2 : Int32) (a3 : Int32) (a4 : Int32) (a5 : Int32) : Int64 × Int32 × Int64 × Int32 := if a0 < 0 then if ((fm_second_w v_hgatp v_rights v_code v_wanted v_ofEntry m_memory ((jlshl ((a0 &&& 4194303).toInt64) 12) + (4 * ((jlshr a1 22) &&& 1023))) 1 a2 1).2.1) = 0 then if ((fm_stands (m_memory ((((fm_second_w v_hgatp v_rights v_code v_wanted v_ofEntry m_memory ((jlshl ((a0 &&& 4194303).toInt64) 12) + (4 * ((jlshr a1 22) &&& 1023))) 1 a2 1).1) / 4).toInt32).toNatClampNeg))) = 0 then (0, (fm_raise a2 12 13 15), (fm_second_w v_hgatp v_rights v_code v_wanted v_ofEntry m_memory ((jlshl ((a0 &&& 4194303).toInt64) 12) + (4 * ((jlshr a1 22) &&& 1023))) 1 a2 1).2.2.1, (fm_second_w v_hgatp v_rights v_code v_wanted v_ofEntry m_memory ((jlshl ((a0 &&& 4194303).toInt64) 12) + (4 * ((jlshr a1 22) &&& 1023))) 1 a2 1).2.2.2) else if ((fm_isLeaf (m_memory ((((fm_second_w v_hgatp v_rights v_code v_wanted v_ofEntry m_memory ((jlshl ((a0 &&& 4194303).toInt64) 12) + (4 * ((jlshr a1 22) &&& 1023))) 1 a2 1).1) / 4).toInt32).toNatClampNeg))) = 0 then if ((fm_isSet (m_memory ((((fm_second_w v_hgatp v_rights v_code v_wanted v_ofEntry m_memory ((jlshl ((a0 &&& 4194303).toInt64) 12) + (4 * ((jlshr a1 22) &&& 1023))) 1 a2 1).1) / 4).toInt32).toNatClampNeg) 4)) = 0 then if ((fm_isSet (m_memory ((((fm_second_w v_hgatp v_rights v_code v_wanted v_ofEntry m_memory ((jlshl ((a0 &&& 4194303).toInt64) 12) + (4 * ((jlshr a1 22) &&& 1023))) 1 a2 1).1) / 4).toInt32).toNatClampNeg) 6)) = 0 then if ((fm_isSet (m_memory ((((fm_second_w v_hgatp v_rights v_code v_wanted v_ofEntry m_memory ((jlshl ((a0 &&& 4194303).toInt64) 12) + (4 * ((jlshr a1 22) &&& 1023))) 1 a2 1).1) / 4).toInt32).toNatClampNeg) 7)) = 0 then if ((fm_second_w v_hgatp v_rights ((fm_second_w v_hgatp v_rights v_code v_wanted v_ofEntry m_memory ((jlshl ((a0 &&& 4194303).toInt64) 12) + (4 * ((jlshr a1 22) &&& 1023))) 1 a2 1).2.1) ((fm_second_w v_hgatp v_rights v_code v_wanted v_ofEntry m_memory ((jlshl ((a0 &&& 4194303).toInt64) 12) + (4 * ((jlshr a1 22) &&& 1023))) 1 a2 1).2.2.1) ((fm_second_w v_hgatp v_rights v_code v_wanted v_ofEntry m_memory ((jlshl ((a0 &&& 4194303).toInt64) 12) + (4 * ((jlshr a1 22) &&& 1023))) 1 a2 1).2.2.2) m_memory ((jlshl ((jiushr (m_memory ((((fm_second_w v_hgatp v_rights v_code v_wanted v_ofEntry m_memory ((jlshl ((a0 &&& 4194303).toInt64) 12) + (4 * ((jlshr a1 22) &&& 1023))) 1 a2 1).1) / 4).toInt32).toNatClampNeg) 10).toInt64) 12) + (4 * ((jlshr a1 12) &&& 1023))) 1 a2 1).2.1) = 0 then if ((fm_stands (m_memory ((((fm_second_w v_hgatp v_rights ((fm_second_w v_hgatp v_rights v_code v_wanted v_ofEntry m_memory ((jlshl ((a0 &&& 4194303).toInt64) 12) + (4 * ((jlshr a1 22) &&& 1023))) 1 a2 1).2.1) ((fm_second_w v_hgatp v_rights v_code v_wanted v_ofEntry m_memory ((jlshl ((a0 &&& 4194303).toInt64) 12) + (4 * ((jlshr a1 22) &&& 1023))) 1 a2 1).2.2.1) ((fm_second_w v_hgatp v_rights v_code v_wanted v_ofEntry m_memory ((jlshl ((a0 &&& 4194303).toInt64) 12) + (4 * ((jlshr a1 22) &&& 1023))) 1 a2 1).2.2.2) m_memory ((jlshl ((jiushr (m_memory ((((fm_second_w v_hgatp v_rights v_code v_wanted v_ofEntry m_memory ((jlshl ((a0 &&& 4194303).toInt64) 12) + (4 * ((jlshr a1 22) &&& 1023))) 1 a2 1).1) / 4).toInt32).toNatClampNeg) 10).toInt64) 12) + (4 * ((jlshr a1 12) &&& 1023))) 1 a2 1).1) / 4).toInt32).toNatClampNeg))) = 0 then (0, (fm_raise a2 12 13 15), (fm_second_w v_hgatp v_rights ((fm_second_w v_hgatp v_rights v_code v_wanted v_ofEntry m_memory ((jlshl ((a0 &&& 4194303).toInt64) 12) + (4 * ((jlshr a1 22) &&& 1023))) 1 a2 1).2.1) ((fm_second_w v_hgatp v_rights v_code v_wanted v_ofEntry m_memory ((jlshl ((a0 &&& 4194303).toInt64) 12) + (4 * ((jlshr a1 22) &&& 1023))) 1 a2 1).2.2.1) ((fm_second_w v_hgatp v_rights v_code v_wanted v_ofEntry m_memory ((jlshl ((a0 &&& 4194303).toInt64) 12) + (4 * ((jlshr a1 22) &&& 1023))) 1 a2 1).2.2.2) m_memory ((jlshl ((jiushr (m_memory ((((fm_second_w v_hgatp v_rights v_code v_wanted v_ofEntry m_memory ((jlshl ((a0 &&& 4194303).toInt64) 12) + (4 * ((jlshr a1 22) &&& 1023))) 1 a2 1).1) / 4).toInt32).toNatClampNeg) 10).toInt64) 12) + (4 * ((jlshr a1 12) &&& 1023))) 1 a2 1).2.2.1, (fm_second_w v_hgatp v_rights ((fm_second_w v_hgatp v_rights v_code v_wanted v_ofEntry m_memory ((jlshl ((a0 &&& 4194303).toInt64) 12) + (4 * ((jlshr a1 22) &&& 1023))) 1 a2 1).2.1) ((fm_second_w v_hgatp v_rights v_code v_wanted v_ofEntry m_memory ((jlshl ((a0 &&& 4194303).toInt64) 12) + (4 * ((jlshr a1 22) &&& 1023))) 1 a2 1).2.2.1) ((fm_second_w v_hgatp v_rights v_code v_wanted v_ofEntry m_memory ((jlshl ((a0 &&& 4194303).toInt64) 12) + (4 * ((jlshr a1 22) &&& 1023))) 1 a2 1).2.2.2) m_memory ((jlshl ((jiushr (m_memory ((((fm_second_w v_hgatp v_rights v_code v_wanted v_ofEntry m_memory ((jlshl ((a0 &&& 4194303).toInt64) 12) + (4 * ((jlshr a1 22) &&& 1023))) 1 a2 1).1) / 4).toInt32).toNatClampNeg) 10).toInt64) 12) + (4 * ((jlshr a1 12) &&& 1023))) 1 a2 1).2.2.2) else if ((fm_isLeaf (m_memory ((((fm_second_w v_hgatp v_rights ((fm_second_w v_hgatp v_rights v_code v_wanted v_ofEntry m_memory ((jlshl ((a0 &&& 4194303).toInt64) 12) + (4 * ((jlshr a1 22) &&& 1023))) 1 a2 1).2.1) ((fm_second_w v_hgatp v_rights v_code v_wanted v_ofEntry m_memory ((jlshl ((a0 &&& 4194303).toInt64) 12) + (4 * ((jlshr a1 22) &&& 1023))) 1 a2 1).2.2.1) ((fm_second_w v_hgatp v_rights v_code v_wanted v_ofEntry m_memory ((jlshl ((a0 &&& 4194303).toInt64) 12) + (4 * ((jlshr a1 22) &&& 1023))) 1 a2 1).2.2.2) m_memory ((jlshl ((jiushr (m_memory ((((fm_second_w v_hgatp v_rights v_code v_wanted v_ofEntry m_memory ((jlshl ((a0 &&& 4194303).toInt64) 12) + (4 * ((jlshr a1 22) &&& 1023))) 1 a2 1).1) / 4).toInt32).toNatClampNeg) 10).toInt64) 12) + (4 * ((jlshr a1 12) &&& 1023))) 1 a2 1).1) / 4).toInt32).toNatClampNeg))) = 0 then if ((fm_isSet (m_memory ((((fm_second_w v_hgatp v_rights ((fm_second_w v_hgatp v_rights v_code v_wanted v_ofEntry m_memory ((jlshl ((a0 &&& 4194303).toInt64) 12) + (4 * ((jlshr a1 22) &&& 1023))) 1 a2 1).2.1) ((fm_second_w v_hgatp v_rights v_code v_wanted v_ofEntry m_memory ((jlshl ((a0 &&& 4194303).toInt64) 12) + (4 * ((jlshr a1 22) &&& 1023))) 1 a2 1).2.2.1) ((fm_second_w v_hgatp v_rights v_code v_wanted v_ofEntry m_memory ((jlshl ((a0 &&& 4194303).toInt64) 12) + (4 * ((jlshr a1 22) &&& 1023))) 1 a2 1).2.2.2) m_memory ((jlshl ((jiushr (m_memory ((((fm_second_w v_hgatp v_rights v_code v_wanted v_ofEntry m_memory ((jlshl ((a0 &&& 4194303).toInt64) 12) + (4 * ((jlshr a1 22) &&& 1023))) 1 a2 1).1) / 4).toInt32).toNatClampNeg) 10).toInt64) 12) + (4 * ((jlshr a1 12) &&& 1023))) 1 a2 1).1) / 4).toInt32).toNatClampNeg) 4)) = 0 then if ((fm_isSet (m_memory ((((fm_second_w v_hgatp v_rights ((fm_second_w v_hgatp v_rights v_code v_wanted v_ofEntry m_memory ((jlshl ((a0 &&& 4194303).toInt64) 12) + (4 * ((jlshr a1 22) &&& 1023))) 1 a2 1).2.1) ((fm_second_w v_hgatp v_rights v_code v_wanted v_ofEntry m_memory ((jlshl ((a0 &&& 4194303).toInt64) 12) + (4 * ((jlshr a1 22) &&& 1023))) 1 a2 1).2.2.1) ((fm_second_w v_hgatp v_rights v_code v_wanted v_ofEntry m_memory ((jlshl ((a0 &&& 4194303).toInt64) 12) + (4 * ((jlshr a1 22) &&& 1023))) 1 a2 1).2.2.2) m_memory ((jlshl ((jiushr (m_memory ((((fm_second_w v_hgatp v_rights v_code v_wanted v_ofEntry m_memory ((jlshl ((a0 &&& 4194303).toInt64) 12) + (4 * ((jlshr a1 22) &&& 1023))) 1 a2 1).1) / 4).toInt32).toNatClampNeg) 10).toInt64) 12) + (4 * ((jlshr a1 12) &&& 1023))) 1 a2 1).1) / 4).toInt32).toNatClampNeg) 6)) = 0 then if ((fm_isSet (m_memory ((((fm_second_w v_hgatp v_rights ((fm_second_w v_hgatp v_rights v_code v_wanted v_ofEntry m_memory ((jlshl ((a0 &&& 4194303).toInt64) 12) + (4 * ((jlshr a1 22) &&& 1023))) 1 a2 1).2.1) ((fm_second_w v_hgatp v_rights v_code v_wanted v_ofEntry m_memory ((jlshl ((a0 &&& 4194303).toInt64) 12) + (4 * ((jlshr a1 22) &&& 1023))) 1 a2 1).2.2.1) ((fm_second_w v_hgatp v_rights v_code v_wanted v_ofEntry m_memory ((jlshl ((a0 &&& 4194303).toInt64) 12) + (4 * ((jlshr a1 22) &&& 1023))) 1 a2 1).2.2.2) m_memory ((jlshl ((jiushr (m_memory ((((fm_second_w v_hgatp v_rights v_code v_wanted v_ofEntry m_memory ((jlshl ((a0 &&& 4194303).toInt64) 12) + (4 * ((jlshr a1 22) &&& 1023))) 1 a2 1).1) / 4).toInt32).toNatClampNeg) 10).toInt64) 12) + (4 * ((jlshr a1 12) &&& 1023))) 1 a2 1).1) / 4).toInt32).toNatClampNeg) 7)) = 0 then (0, (fm_raise a2 12 13 15), (fm_second_w v_hgatp v_rights ((fm_second_w v_hgatp v_rights v_code v_wanted v_ofEntry m_memory ((jlshl ((a0 &&& 4194303).toInt64) 12) + (4 * ((jlshr a1 22) &&& 1023))) 1 a2 1).2.1) ((fm_second_w v_hgatp v_rights v_code v_wanted v_ofEntry m_memory ((jlshl ((a0 &&& 4194303).toInt64) 12) + (4 * ((jlshr a1 22) &&& 1023))) 1 a2 1).2.2.1) ((fm_second_w v_hgatp v_rights v_code v_wanted v_ofEntry m_memory ((jlshl ((a0 &&& 4194303).toInt64) 12) + (4 * ((jlshr a1 22) &&& 1023))) 1 a2 1).2.2.2) m_memory ((jlshl ((jiushr (m_memory ((((fm_second_w v_hgatp v_rights v_code v_wanted v_ofEntry m_memory ((jlshl ((a0 &&& 4194303).toInt64) 12) + (4 * ((jlshr a1 22) &&& 1023))) 1 a2 1).1) / 4).toInt32).toNatClampNeg) 10).toInt64) 12) + (4 * ((jlshr a1 12) &&& 1023))) 1 a2 1).2.2.1, (fm_second_w v_hgatp v_rights ((fm_second_w v_hgatp v_rights v_code v_wanted v_ofEntry m_memory ((jlshl ((a0 &&& 4194303).toInt64) 12) + (4 * ((jlshr a1 22) &&& 1023))) 1 a2 1).2.1) ((fm_second_w v_hgatp v_rights v_code v_wanted v_ofEntry m_memory ((jlshl ((a0 &&& 4194303).toInt64) 12) + (4 * ((jlshr a1 22) &&& 1023))) 1 a2 1).2.2.1) ((fm_second_w v_hgatp v_rights v_code v_wanted v_ofEntry m_memory ((jlshl ((a0 &&& 4194303).toInt64) 12) + (4 * ((jlshr a1 22) &&& 1023))) 1 a2 1).2.2.2) m_memory ((jlshl ((jiushr (m_memory ((((fm_second_w v_hgatp v_rights v_code v_wanted v_ofEntry m_memory ((jlshl ((a0 &&& 4194303).toInt64) 12) + (4 * ((jlshr a1 22) &&& 1023))) 1 a2 1).1) / 4).toInt32).toNatClampNeg) 10).toInt64) 12) + (4 * ((jlshr a1 12) &&& 1023))) 1 a2 1).2.2.2) else (0, (fm_raise a2 12 13 15), (fm_second_w v_hgatp v_rights ((fm_second_w v_hgatp v_rights v_code v_wanted v_ofEntry m_memory ((jlshl ((a0 &&& 4194303).toInt64) 12) + (4 * ((jlshr a1 22) &&& 1023))) 1 a2 1).2.1) ((fm_second_w v_hgatp v_rights v_code v_wanted v_ofEntry m_memory ((jlshl ((a0 &&& 4194303).toInt64) 12) + (4 * ((jlshr a1 22) &&& 1023))) 1 a2 1).2.2.1) ((fm_second_w v_hgatp v_rights v_code v_wanted v_ofEntry m_memory ((jlshl ((a0 &&& 4194303).toInt64) 12) + (4 * ((jlshr a1 22) &&& 1023))) 1 a2 1).2.2.2) m_memory ((jlshl ((jiushr (m_memory ((((fm_second_w v_hgatp v_rights v_code v_wanted v_ofEntry m_memory ((jlshl ((a0 &&& 4194303).toInt64) 12) + (4 * ((jlshr a1 22) &&& 1023))) 1 a2 1).1) / 4).toInt32).toNatClampNeg) 10).toInt64) 12) + (4 * ((jlshr a1 12) &&& 1023))) 1 a2 1).2.2.1, (fm_second_w v_hgatp v_rights ((fm_second_w v_hgatp v_rights v_code v_wanted v_ofEntry m_memory ((jlshl ((a0 &&& 4194303).toInt64) 12) + (4 * ((jlshr a1 22) &&& 1023))) 1 a2 1).2.1) ((fm_second_w v_hgatp v_rights v_code v_wanted v_ofEntry m_memory ((jlshl ((a0 &&& 4194303).toInt64) 12) + (4 * ((jlshr a1 22) &&& 1023))) 1 a2 1).2.2.1) ((fm_second_w v_hgatp v_rights v_code v_wanted v_ofEntry m_memory ((jlshl ((a0 &&& 4194303).toInt64) 12) + (4 * ((jlshr a1 22) &&& 1023))) 1 a2 1).2.2.2) m_memory ((jlshl ((jiushr (m_memory ((((fm_second_w v_hgatp v_rights v_code v_wanted v_ofEntry m_memory ((jlshl ((a0 &&& 4194303).toInt64) 12) + (4 * ((jlshr a1 22) &&& 1023))) 1 a2 1).1) / 4).toInt32).toNatClampNeg) 10).toInt64) 12) + (4 * ((jlshr a1 12) &&& 1023))) 1 a2 1).2.2.2) else (0, (fm_raise a2 12 13 15), (fm_second_w v_hgatp v_rights ((fm_second_w v_hgatp v_rights v_code v_wanted v_ofEntry m_memory ((jlshl ((a0 &&& 4194303).toInt64) 12) + (4 * ((jlshr a1 22) &&& 1023))) 1 a2 1).2.1) ((fm_second_w v_hgatp v_rights v_code v_wanted v_ofEntry m_memory ((jlshl ((a0 &&& 4194303).toInt64) 12) + (4 * ((jlshr a1 22) &&& 1023))) 1 a2 1).2.2.1) ((fm_second_w v_hgatp v_rights v_code v_wanted v_ofEntry m_memory ((jlshl ((a0 &&& 4194303).toInt64) 12) + (4 * ((jlshr a1 22) &&& 1023))) 1 a2 1).2.2.2) m_memory ((jlshl ((jiushr (m_memory ((((fm_second_w v_hgatp v_rights v_code v_wanted v_ofEntry m_memory ((jlshl ((a0 &&& 4194303).toInt64) 12) + (4 * ((jlshr a1 22) &&& 1023))) 1 a2 1).1) / 4).toInt32).toNatClampNeg) 10).toInt64) 12) + (4 * ((jlshr a1 12) &&& 1023))) 1 a2 1).2.2.1, (fm_second_w v_hgatp v_rights ((fm_second_w v_hgatp v_rights v_code v_wanted v_ofEntry m_memory ((jlshl ((a0 &&& 4194303).toInt64) 12) + (4 * ((jlshr a1 22) &&& 1023))) 1 a2 1).2.1) ((fm_second_w v_hgatp v_rights v_code v_wanted v_ofEntry m_memory ((jlshl ((a0 &&& 4194303).toInt64) 12) + (4 * ((jlshr a1 22) &&& 1023))) 1 a2 1).2.2.1) ((fm_second_w v_hgatp v_rights v_code v_wanted v_ofEntry m_memory ((jlshl ((a0 &&& 4194303).toInt64) 12) + (4 * ((jlshr a1 22) &&& 1023))) 1 a2 1).2.2.2) m_memory ((jlshl ((jiushr (m_memory ((((fm_second_w v_hgatp v_rights v_code v_wanted v_ofEntry m_memory ((jlshl ((a0 &&& 4194303).toInt64) 12) + (4 * ((jlshr a1 22) &&& 1023))) 1 a2 1).1) / 4).toInt32).toNatClampNeg) 10).toInt64) 12) + (4 * ((jlshr a1 12) &&& 1023))) 1 a2 1).2.2.2) else (0, (fm_raise a2 12 13 15), (fm_second_w v_hgatp v_rights ((fm_second_w v_hgatp v_rights v_code v_wanted v_ofEntry m_memory ((jlshl ((a0 &&& 4194303).toInt64) 12) + (4 * ((jlshr a1 22) &&& 1023))) 1 a2 1).2.1) ((fm_second_w v_hgatp v_rights v_code v_wanted v_ofEntry m_memory ((jlshl ((a0 &&& 4194303).toInt64) 12) + (4 * ((jlshr a1 22) &&& 1023))) 1 a2 1).2.2.1) ((fm_second_w v_hgatp v_rights v_code v_wanted v_ofEntry m_memory ((jlshl ((a0 &&& 4194303).toInt64) 12) + (4 * ((jlshr a1 22) &&& 1023))) 1 a2 1).2.2.2) m_memory ((jlshl ((jiushr (m_memory ((((fm_second_w v_hgatp v_rights v_code v_wanted v_ofEntry m_memory ((jlshl ((a0 &&& 4194303).toInt64) 12) + (4 * ((jlshr a1 22) &&& 1023))) 1 a2 1).1) / 4).toInt32).toNatClampNeg) 10).toInt64) 12) + (4 * ((jlshr a1 12) &&& 1023))) 1 a2 1).2.2.1, (fm_second_w v_hgatp v_rights ((fm_second_w v_hgatp v_rights v_code v_wanted v_ofEntry m_memory ((jlshl ((a0 &&& 4194303).toInt64) 12) + (4 * ((jlshr a1 22) &&& 1023))) 1 a2 1).2.1) ((fm_second_w v_hgatp v_rights v_code v_wanted v_ofEntry m_memory ((jlshl ((a0 &&& 4194303).toInt64) 12) + (4 * ((jlshr a1 22) &&& 1023))) 1 a2 1).2.2.1) ((fm_second_w v_hgatp v_rights v_code v_wanted v_ofEntry m_memory ((jlshl ((a0 &&& 4194303).toInt64) 12) + (4 * ((jlshr a1 22) &&& 1023))) 1 a2 1).2.2.2) m_memory ((jlshl ((jiushr (m_memory ((((fm_second_w v_hgatp v_rights v_code v_wanted v_ofEntry m_memory ((jlshl ((a0 &&& 4194303).toInt64) 12) + (4 * ((jlshr a1 22) &&& 1023))) 1 a2 1).1) / 4).toInt32).toNatClampNeg) 10).toInt64) 12) + (4 * ((jlshr a1 12) &&& 1023))) 1 a2 1).2.2.2) else if ((fm_userFits (m_memory ((((fm_second_w v_hgatp v_rights ((fm_second_w v_hgatp v_rights v_code v_wanted v_ofEntry m_memory ((jlshl ((a0 &&& 4194303).toInt64) 12) + (4 * ((jlshr a1 22) &&& 1023))) 1 a2 1).2.1) ((fm_second_w v_hgatp v_rights v_code v_wanted v_ofEntry m_memory ((jlshl ((a0 &&& 4194303).toInt64) 12) + (4 * ((jlshr a1 22) &&& 1023))) 1 a2 1).2.2.1) ((fm_second_w v_hgatp v_rights v_code v_wanted v_ofEntry m_memory ((jlshl ((a0 &&& 4194303).toInt64) 12) + (4 * ((jlshr a1 22) &&& 1023))) 1 a2 1).2.2.2) m_memory ((jlshl ((jiushr (m_memory ((((fm_second_w v_hgatp v_rights v_code v_wanted v_ofEntry m_memory ((jlshl ((a0 &&& 4194303).toInt64) 12) + (4 * ((jlshr a1 22) &&& 1023))) 1 a2 1).1) / 4).toInt32).toNatClampNeg) 10).toInt64) 12) + (4 * ((jlshr a1 12) &&& 1023))) 1 a2 1).1) / 4).toInt32).toNatClampNeg) a3 a2 a4)) = 0 then (0, (fm_raise a2 12 13 15), (fm_second_w v_hgatp v_rights ((fm_second_w v_hgatp v_rights v_code v_wanted v_ofEntry m_memory ((jlshl ((a0 &&& 4194303).toInt64) 12) + (4 * ((jlshr a1 22) &&& 1023))) 1 a2 1).2.1) ((fm_second_w v_hgatp v_rights v_code v_wanted v_ofEntry m_memory ((jlshl ((a0 &&& 4194303).toInt64) 12) + (4 * ((jlshr a1 22) &&& 1023))) 1 a2 1).2.2.1) ((fm_second_w v_hgatp v_rights v_code v_wanted v_ofEntry m_memory ((jlshl ((a0 &&& 4194303).toInt64) 12) + (4 * ((jlshr a1 22) &&& 1023))) 1 a2 1).2.2.2) m_memory ((jlshl ((jiushr (m_memory ((((fm_second_w v_hgatp v_rights v_code v_wanted v_ofEntry m_memory ((jlshl ((a0 &&& 4194303).toInt64) 12) + (4 * ((jlshr a1 22) &&& 1023))) 1 a2 1).1) / 4).toInt32).toNatClampNeg) 10).toInt64) 12) + (4 * ((jlshr a1 12) &&& 1023))) 1 a2 1).2.2.1, (fm_second_w v_hgatp v_rights ((fm_second_w v_hgatp v_rights v_code v_wanted v_ofEntry m_memory ((jlshl ((a0 &&& 4194303).toInt64) 12) + (4 * ((jlshr a1 22) &&& 1023))) 1 a2 1).2.1) ((fm_second_w v_hgatp v_rights v_code v_wanted v_ofEntry m_memory ((jlshl ((a0 &&& 4194303).toInt64) 12) + (4 * ((jlshr a1 22) &&& 1023))) 1 a2 1).2.2.1) ((fm_second_w v_hgatp v_rights v_code v_wanted v_ofEntry m_memory ((jlshl ((a0 &&& 4194303).toInt64) 12) + (4 * ((jlshr a1 22) &&& 1023))) 1 a2 1).2.2.2) m_memory ((jlshl ((jiushr (m_memory ((((fm_second_w v_hgatp v_rights v_code v_wanted v_ofEntry m_memory ((jlshl ((a0 &&& 4194303).toInt64) 12) + (4 * ((jlshr a1 22) &&& 1023))) 1 a2 1).1) / 4).toInt32).toNatClampNeg) 10).toInt64) 12) + (4 * ((jlshr a1 12) &&& 1023))) 1 a2 1).2.2.2) else if ((fm_allows (m_memory ((((fm_second_w v_hgatp v_rights ((fm_second_w v_hgatp v_rights v_code v_wanted v_ofEntry m_memory ((jlshl ((a0 &&& 4194303).toInt64) 12) + (4 * ((jlshr a1 22) &&& 1023))) 1 a2 1).2.1) ((fm_second_w v_hgatp v_rights v_code v_wanted v_ofEntry m_memory ((jlshl ((a0 &&& 4194303).toInt64) 12) + (4 * ((jlshr a1 22) &&& 1023))) 1 a2 1).2.2.1) ((fm_second_w v_hgatp v_rights v_code v_wanted v_ofEntry m_memory ((jlshl ((a0 &&& 4194303).toInt64) 12) + (4 * ((jlshr a1 22) &&& 1023))) 1 a2 1).2.2.2) m_memory ((jlshl ((jiushr (m_memory ((((fm_second_w v_hgatp v_rights v_code v_wanted v_ofEntry m_memory ((jlshl ((a0 &&& 4194303).toInt64) 12) + (4 * ((jlshr a1 22) &&& 1023))) 1 a2 1).1) / 4).toInt32).toNatClampNeg) 10).toInt64) 12) + (4 * ((jlshr a1 12) &&& 1023))) 1 a2 1).1) / 4).toInt32).toNatClampNeg) a2 a5)) = 0 then (0, (fm_raise a2 12 13 15), (fm_second_w v_hgatp v_rights ((fm_second_w v_hgatp v_rights v_code v_wanted v_ofEntry m_memory ((jlshl ((a0 &&& 4194303).toInt64) 12) + (4 * ((jlshr a1 22) &&& 1023))) 1 a2 1).2.1) ((fm_second_w v_hgatp v_rights v_code v_wanted v_ofEntry m_memory ((jlshl ((a0 &&& 4194303).toInt64) 12) + (4 * ((jlshr a1 22) &&& 1023))) 1 a2 1).2.2.1) ((fm_second_w v_hgatp v_rights v_code v_wanted v_ofEntry m_memory ((jlshl ((a0 &&& 4194303).toInt64) 12) + (4 * ((jlshr a1 22) &&& 1023))) 1 a2 1).2.2.2) m_memory ((jlshl ((jiushr (m_memory ((((fm_second_w v_hgatp v_rights v_code v_wanted v_ofEntry m_memory ((jlshl ((a0 &&& 4194303).toInt64) 12) + (4 * ((jlshr a1 22) &&& 1023))) 1 a2 1).1) / 4).toInt32).toNatClampNeg) 10).toInt64) 12) + (4 * ((jlshr a1 12) &&& 1023))) 1 a2 1).2.2.1, (fm_second_w v_hgatp v_rights ((fm_second_w v_hgatp v_rights v_code v_wanted v_ofEntry m_memory ((jlshl ((a0 &&& 4194303).toInt64) 12) + (4 * ((jlshr a1 22) &&& 1023))) 1 a2 1).2.1) ((fm_second_w v_hgatp v_rights v_code v_wanted v_ofEntry m_memory ((jlshl ((a0 &&& 4194303).toInt64) 12) + (4 * ((jlshr a1 22) &&& 1023))) 1 a2 1).2.2.1) ((fm_second_w v_hgatp v_rights v_code v_wanted v_ofEntry m_memory ((jlshl ((a0 &&& 4194303).toInt64) 12) + (4 * ((jlshr a1 22) &&& 1023))) 1 a2 1).2.2.2) m_memory ((jlshl ((jiushr (m_memory ((((fm_second_w v_hgatp v_rights v_code v_wanted v_ofEntry m_memory ((jlshl ((a0 &&& 4194303).toInt64) 12) + (4 * ((jlshr a1 22) &&& 1023))) 1 a2 1).1) / 4).toInt32).toNatClampNeg) 10).toInt64) 12) + (4 * ((jlshr a1 12) &&& 1023))) 1 a2 1).2.2.2) else ((fm_result (m_memory ((((fm_second_w v_hgatp v_rights ((fm_second_w v_hgatp v_rights v_code v_wanted v_ofEntry m_memory ((jlshl ((a0 &&& 4194303).toInt64) 12) + (4 * ((jlshr a1 22) &&& 1023))) 1 a2 1).2.1) ((fm_second_w v_hgatp v_rights v_code v_wanted v_ofEntry m_memory ((jlshl ((a0 &&& 4194303).toInt64) 12) + (4 * ((jlshr a1 22) &&& 1023))) 1 a2 1).2.2.1) ((fm_second_w v_hgatp v_rights v_code v_wanted v_ofEntry m_memory ((jlshl ((a0 &&& 4194303).toInt64) 12) + (4 * ((jlshr a1 22) &&& 1023))) 1 a2 1).2.2.2) m_memory ((jlshl ((jiushr (m_memory ((((fm_second_w v_hgatp v_rights v_code v_wanted v_ofEntry m_memory ((jlshl ((a0 &&& 4194303).toInt64) 12) + (4 * ((jlshr a1 22) &&& 1023))) 1 a2 1).1) / 4).toInt32).toNatClampNeg) 10).toInt64) 12) + (4 * ((jlshr a1 12) &&& 1023))) 1 a2 1).1) / 4).toInt32).toNatClampNeg) 0 a1), (fm_second_w v_hgatp v_rights ((fm_second_w v_hgatp v_rights v_code v_wanted v_ofEntry m_memory ((jlshl ((a0 &&& 4194303).toInt64) 12) + (4 * ((jlshr a1 22) &&& 1023))) 1 a2 1).2.1) ((fm_second_w v_hgatp v_rights v_code v_wanted v_ofEntry m_memory ((jlshl ((a0 &&& 4194303).toInt64) 12) + (4 * ((jlshr a1 22) &&& 1023))) 1 a2 1).2.2.1) ((fm_second_w v_hgatp v_rights v_code v_wanted v_ofEntry m_memory ((jlshl ((a0 &&& 4194303).toInt64) 12) + (4 * ((jlshr a1 22) &&& 1023))) 1 a2 1).2.2.2) m_memory ((jlshl ((jiushr (m_memory ((((fm_second_w v_hgatp v_rights v_code v_wanted v_ofEntry m_memory ((jlshl ((a0 &&& 4194303).toInt64) 12) + (4 * ((jlshr a1 22) &&& 1023))) 1 a2 1).1) / 4).toInt32).toNatClampNeg) 10).toInt64) 12) + (4 * ((jlshr a1 12) &&& 1023))) 1 a2 1).2.1, (fm_second_w v_hgatp v_rights ((fm_second_w v_hgatp v_rights v_code v_wanted v_ofEntry m_memory ((jlshl ((a0 &&& 4194303).toInt64) 12) + (4 * ((jlshr a1 22) &&& 1023))) 1 a2 1).2.1) ((fm_second_w v_hgatp v_rights v_code v_wanted v_ofEntry m_memory ((jlshl ((a0 &&& 4194303).toInt64) 12) + (4 * ((jlshr a1 22) &&& 1023))) 1 a2 1).2.2.1) ((fm_second_w v_hgatp v_rights v_code v_wanted v_ofEntry m_memory ((jlshl ((a0 &&& 4194303).toInt64) 12) + (4 * ((jlshr a1 22) &&& 1023))) 1 a2 1).2.2.2) m_memory ((jlshl ((jiushr (m_memory ((((fm_second_w v_hgatp v_rights v_code v_wanted v_ofEntry m_memory ((jlshl ((a0 &&& 4194303).toInt64) 12) + (4 * ((jlshr a1 22) &&& 1023))) 1 a2 1).1) / 4).toInt32).toNatClampNeg) 10).toInt64) 12) + (4 * ((jlshr a1 12) &&& 1023))) 1 a2 1).2.2.1, (fm_second_w v_hgatp v_rights ((fm_second_w v_hgatp v_rights v_code v_wanted v_ofEntry m_memory ((jlshl ((a0 &&& 4194303).toInt64) 12) + (4 * ((jlshr a1 22) &&& 1023))) 1 a2 1).2.1) ((fm_second_w v_hgatp v_rights v_code v_wanted v_ofEntry m_memory ((jlshl ((a0 &&& 4194303).toInt64) 12) + (4 * ((jlshr a1 22) &&& 1023))) 1 a2 1).2.2.1) ((fm_second_w v_hgatp v_rights v_code v_wanted v_ofEntry m_memory ((jlshl ((a0 &&& 4194303).toInt64) 12) + (4 * ((jlshr a1 22) &&& 1023))) 1 a2 1).2.2.2) m_memory ((jlshl ((jiushr (m_memory ((((fm_second_w v_hgatp v_rights v_code v_wanted v_ofEntry m_memory ((jlshl ((a0 &&& 4194303).toInt64) 12) + (4 * ((jlshr a1 22) &&& 1023))) 1 a2 1).1) / 4).toInt32).toNatClampNeg) 10).toInt64) 12) + (4 * ((jlshr a1 12) &&& 1023))) 1 a2 1).2.2.2) else (0, (fm_second_w v_hgatp v_rights ((fm_second_w v_hgatp v_rights v_code v_wanted v_ofEntry m_memory ((jlshl ((a0 &&& 4194303).toInt64) 12) + (4 * ((jlshr a1 22) &&& 1023))) 1 a2 1).2.1) ((fm_second_w v_hgatp v_rights v_code v_wanted v_ofEntry m_memory ((jlshl ((a0 &&& 4194303).toInt64) 12) + (4 * ((jlshr a1 22) &&& 1023))) 1 a2 1).2.2.1) ((fm_second_w v_hgatp v_rights v_code v_wanted v_ofEntry m_memory ((jlshl ((a0 &&& 4194303).toInt64) 12) + (4 * ((jlshr a1 22) &&& 1023))) 1 a2 1).2.2.2) m_memory ((jlshl ((jiushr (m_memory ((((fm_second_w v_hgatp v_rights v_code v_wanted v_ofEntry m_memory ((jlshl ((a0 &&& 4194303).toInt64) 12) + (4 * ((jlshr a1 22) &&& 1023))) 1 a2 1).1) / 4).toInt32).toNatClampNeg) 10).toInt64) 12) + (4 * ((jlshr a1 12) &&& 1023))) 1 a2 1).2.1, (fm_second_w v_hgatp v_rights ((fm_second_w v_hgatp v_rights v_code v_wanted v_ofEntry m_memory ((jlshl ((a0 &&& 4194303).toInt64) 12) + (4 * ((jlshr a1 22) &&& 1023))) 1 a2 1).2.1) ((fm_second_w v_hgatp v_rights v_code v_wanted v_ofEntry m_memory ((jlshl ((a0 &&& 4194303).toInt64) 12) + (4 * ((jlshr a1 22) &&& 1023))) 1 a2 1).2.2.1) ((fm_second_w v_hgatp v_rights v_code v_wanted v_ofEntry m_memory ((jlshl ((a0 &&& 4194303).toInt64) 12) + (4 * ((jlshr a1 22) &&& 1023))) 1 a2 1).2.2.2) m_memory ((jlshl ((jiushr (m_memory ((((fm_second_w v_hgatp v_rights v_code v_wanted v_ofEntry m_memory ((jlshl ((a0 &&& 4194303).toInt64) 12) + (4 * ((jlshr a1 22) &&& 1023))) 1 a2 1).1) / 4).toInt32).toNatClampNeg) 10).toInt64) 12) + (4 * ((jlshr a1 12) &&& 1023))) 1 a2 1).2.2.1, (fm_second_w v_hgatp v_rights ((fm_second_w v_hgatp v_rights v_code v_wanted v_ofEntry m_memory ((jlshl ((a0 &&& 4194303).toInt64) 12) + (4 * ((jlshr a1 22) &&& 1023))) 1 a2 1).2.1) ((fm_second_w v_hgatp v_rights v_code v_wanted v_ofEntry m_memory ((jlshl ((a0 &&& 4194303).toInt64) 12) + (4 * ((jlshr a1 22) &&& 1023))) 1 a2 1).2.2.1) ((fm_second_w v_hgatp v_rights v_code v_wanted v_ofEntry m_memory ((jlshl ((a0 &&& 4194303).toInt64) 12) + (4 * ((jlshr a1 22) &&& 1023))) 1 a2 1).2.2.2) m_memory ((jlshl ((jiushr (m_memory ((((fm_second_w v_hgatp v_rights v_code v_wanted v_ofEntry m_memory ((jlshl ((a0 &&& 4194303).toInt64) 12) + (4 * ((jlshr a1 22) &&& 1023))) 1 a2 1).1) / 4).toInt32).toNatClampNeg) 10).toInt64) 12) + (4 * ((jlshr a1 12) &&& 1023))) 1 a2 1).2.2.2) else (0, (fm_raise a2 12 13 15), (fm_second_w v_hgatp v_rights v_code v_wanted v_ofEntry m_memory ((jlshl ((a0 &&& 4194303).toInt64) 12) + (4 * ((jlshr a1 22) &&& 1023))) 1 a2 1).2.2.1, (fm_second_w v_hgatp v_rights v_code v_wanted v_ofEntry m_memory ((jlshl ((a0 &&& 4194303).toInt64) 12) + (4 * ((jlshr a1 22) &&& 1023))) 1 a2 1).2.2.2) else (0, (fm_raise a2 12 13 15), (fm_second_w v_hgatp v_rights v_code v_wanted v_ofEntry m_memory ((jlshl ((a0 &&& 4194303).toInt64) 12) + (4 * ((jlshr a1 22) &&& 1023))) 1 a2 1).2.2.1, (fm_second_w v_hgatp v_rights v_code v_wanted v_ofEntry m_memory ((jlshl ((a0 &&& 4194303).toInt64) 12) + (4 * ((jlshr a1 22) &&& 1023))) 1 a2 1).2.2.2) else (0, (fm_raise a2 12 13 15), (fm_second_w v_hgatp v_rights v_code v_wanted v_ofEntry m_memory ((jlshl ((a0 &&& 4194303).toInt64) 12) + (4 * ((jlshr a1 22) &&& 1023))) 1 a2 1).2.2.1, (fm_second_w v_hgatp v_rights v_code v_wanted v_ofEntry m_memory ((jlshl ((a0 &&& 4194303).toInt64) 12) + (4 * ((jlshr a1 22) &&& 1023))) 1 a2 1).2.2.2) else if ((if (((m_memory ((((fm_second_w v_hgatp v_rights v_code v_wanted v_ofEntry m_memory ((jlshl ((a0 &&& 4194303).toInt64) 12) + (4 * ((jlshr a1 22) &&& 1023))) 1 a2 1).1) / 4).toInt32).toNatClampNeg) >>> (10 &&& 31)) &&& 1023) = 0 then 1 else 0 : Int32)) = 0 then (0, (fm_raise a2 12 13 15), (fm_second_w v_hgatp v_rights v_code v_wanted v_ofEntry m_memory ((jlshl ((a0 &&& 4194303).toInt64) 12) + (4 * ((jlshr a1 22) &&& 1023))) 1 a2 1).2.2.1, (fm_second_w v_hgatp v_rights v_code v_wanted v_ofEntry m_memory ((jlshl ((a0 &&& 4194303).toInt64) 12) + (4 * ((jlshr a1 22) &&& 1023))) 1 a2 1).2.2.2) else if ((fm_userFits (m_memory ((((fm_second_w v_hgatp v_rights v_code v_wanted v_ofEntry m_memory ((jlshl ((a0 &&& 4194303).toInt64) 12) + (4 * ((jlshr a1 22) &&& 1023))) 1 a2 1).1) / 4).toInt32).toNatClampNeg) a3 a2 a4)) = 0 then (0, (fm_raise a2 12 13 15), (fm_second_w v_hgatp v_rights v_code v_wanted v_ofEntry m_memory ((jlshl ((a0 &&& 4194303).toInt64) 12) + (4 * ((jlshr a1 22) &&& 1023))) 1 a2 1).2.2.1, (fm_second_w v_hgatp v_rights v_code v_wanted v_ofEntry m_memory ((jlshl ((a0 &&& 4194303).toInt64) 12) + (4 * ((jlshr a1 22) &&& 1023))) 1 a2 1).2.2.2) else if ((fm_allows (m_memory ((((fm_second_w v_hgatp v_rights v_code v_wanted v_ofEntry m_memory ((jlshl ((a0 &&& 4194303).toInt64) 12) + (4 * ((jlshr a1 22) &&& 1023))) 1 a2 1).1) / 4).toInt32).toNatClampNeg) a2 a5)) = 0 then (0, (fm_raise a2 12 13 15), (fm_second_w v_hgatp v_rights v_code v_wanted v_ofEntry m_memory ((jlshl ((a0 &&& 4194303).toInt64) 12) + (4 * ((jlshr a1 22) &&& 1023))) 1 a2 1).2.2.1, (fm_second_w v_hgatp v_rights v_code v_wanted v_ofEntry m_memory ((jlshl ((a0 &&& 4194303).toInt64) 12) + (4 * ((jlshr a1 22) &&& 1023))) 1 a2 1).2.2.2) else ((fm_result (m_memory ((((fm_second_w v_hgatp v_rights v_code v_wanted v_ofEntry m_memory ((jlshl ((a0 &&& 4194303).toInt64) 12) + (4 * ((jlshr a1 22) &&& 1023))) 1 a2 1).1) / 4).toInt32).toNatClampNeg) 1 a1), (fm_second_w v_hgatp v_rights v_code v_wanted v_ofEntry m_memory ((jlshl ((a0 &&& 4194303).toInt64) 12) + (4 * ((jlshr a1 22) &&& 1023))) 1 a2 1).2.1, (fm_second_w v_hgatp v_rights v_code v_wanted v_ofEntry m_memory ((jlshl ((a0 &&& 4194303).toInt64) 12) + (4 * ((jlshr a1 22) &&& 1023))) 1 a2 1).2.2.1, (fm_second_w v_hgatp v_rights v_code v_wanted v_ofEntry m_memory ((jlshl ((a0 &&& 4194303).toInt64) 12) + (4 * ((jlshr a1 22) &&& 1023))) 1 a2 1).2.2.2) else (0, (fm_second_w v_hgatp v_rights v_code v_wanted v_ofEntry m_memory ((jlshl ((a0 &&& 4194303).toInt64) 12) + (4 * ((jlshr a1 22) &&& 1023))) 1 a2 1).2.1, (fm_second_w v_hgatp v_rights v_code v_wanted v_ofEntry m_memory ((jlshl ((a0 &&& 4194303).toInt64) 12) + (4 * ((jlshr a1 22) &&& 1023))) 1 a2 1).2.2.1, (fm_second_w v_hgatp v_rights v_code v_wanted v_ofEntry m_memory ((jlshl ((a0 &&& 4194303).toInt64) 12) + (4 * ((jlshr a1 22) &&& 1023))) 1 a2 1).2.2.2) else (a1, v_code, v_wanted, v_ofEntry)
set_option maxHeartbeats 4000000 in
set_option maxRecDepth 100000 in
theorem ctm_first1 (l : Launch) (dC : Nat → ClassId) (dI : Nat → Nat → Nat) (h0 : Nat) (q_memory : Nat) (k_memory : ClassId) (sz : Nat) (v_atp : Int32) (v_vsAtp : Int32) (v_hgatp : Int32) (v_rights : Int32) (v_code : Int32) (v_found : Int64) (v_wanted : Int64) (v_ofEntry : Int32) (m_memory : Nat → Int32) (a0 : Int32) (a1 : Int64) (a2 : Int32) (a3 : Int32) (a4 : Int32) (a5 : Int32) : MWl l yX1_first wsX1_first ({ frames := 3, cells := 0, slots := 0, locals := 80 }) (dC, dI) vwCl [(k_memory, .int)] [.ref h0, .int a0, .long a1, .int a2, .int a3, .int a4, .int a5, .int 1] sz (wm h0 q_memory k_memory v_atp v_vsAtp v_hgatp v_rights v_code v_found v_wanted v_ofEntry m_memory) (fun u : Int64 × Int32 × Int64 × Int32 => (wm h0 q_memory k_memory v_atp v_vsAtp v_hgatp v_rights u.2.1 v_found u.2.2.1 u.2.2.2 m_memory)) (fun u : Int64 × Int32 × Int64 × Int32 => u.1) (fm_first1 v_hgatp v_rights v_code v_wanted v_ofEntry m_memory a0 a1 a2 a3 a4 a5) := by
  refine Met.ofW (cc := cX1_first) (maxL := 17) (ret := (some .long)) (by decide) rfl ?_
  intro p e s m args below meth c s₁ B hml hv
  obtain ⟨rfl, hsz, hP, hK, hD0⟩ := hv
  have hx := B.exec
  have hb := B.bytes
  have hr := B.returns
  have hts := atoms_spec (ws := wsX1_first) B.pre
  have hown : s.vm.findClass RX1 = some m.cls := findClass_of_methodNamed B.named
  have hlocks := B.notSynchronized
  subst hsz
  have hwX : ∀ w ∈ u_ws RX1 TX1 9, w ∈ wsX1_first := by decide +kernel
  have hD := hD0.self (sz := s.heap.size)
  generalize hAe : va_A (wm h0 q_memory k_memory v_atp v_vsAtp v_hgatp v_rights v_code v_found v_wanted v_ofEntry m_memory) s.heap.size = A at hD ⊢
  have hA : ∀ q : Nat, s.heap.size ≤ q → A q := fun q h => by rw [← hAe]; exact Or.inr h
  have hS : va_S A s.heap s.heap [] := va_S.rf
  have hP : va_P (dC, dI) vwCl (wm h0 q_memory k_memory v_atp v_vsAtp v_hgatp v_rights v_code v_found v_wanted v_ofEntry m_memory) s.heap := hP
  have hl := lv_entry ([.ref h0, .int a0, .long a1, .int a2, .int a3, .int a4, .int a5, .int 1]) (n := 17) (Nat.le_of_ble_eq_true rfl)
  rw [lg_entry_eq]
  generalize (lg_sl ([.ref h0, .int a0, .long a1, .int a2, .int a3, .int a4, .int a5, .int 1]) ++ List.replicate (17 - (lg_sl ([.ref h0, .int a0, .long a1, .int a2, .int a3, .int a4, .int a5, .int 1])).length) Slot.unset).toArray = ls at hl ⊢
  have hl : lv_has ls 17 [(0, .ref h0), (1, .int a0), (2, .long a1), (4, .int a2), (5, .int a3), (6, .int a4), (7, .int a5), (8, .int 1)] := hl
  refine lv_iload_n hx hb dX1_first_0 rfl (lv_at hl 1 rfl) ?_
  refine lv_if_lt (tgt := 6) hx hb dX1_first_1 (by decide) (fun c_1 => ?_) (fun c_1 => ?_)
  · skip
    refine lv_iload_n hx hb dX1_first_6 rfl (lv_at hl 1 rfl) ?_
    refine lv_ldc hx hb hown (hts (.constant RX1 81 4194303) (by decide +kernel)) dX1_first_7 ?_
    refine lv_iand hx hb dX1_first_9 ?_
    refine lv_i2l (v := (a0 &&& 4194303).toInt64) hx hb dX1_first_10 rfl ?_
    refine lv_bipush (v := 12) hx hb dX1_first_11 (by decide) ?_
    refine lv_lshl (v := jlshl ((a0 &&& 4194303).toInt64) 12) hx hb dX1_first_13 rfl ?_
    refine lv_topl (fun z_1 ez_1 => ?_)
    refine lv_lstore (lv' := [(9, .long z_1), (0, .ref h0), (1, .int a0), (2, .long a1), (4, .int a2), (5, .int a3), (6, .int a4), (7, .int a5), (8, .int 1)]) hx hb dX1_first_14 hl (by decide) rfl (fun ls hl => ?_)
    refine lv_iconst (v := 1) hx hb dX1_first_16 (by decide) ?_
    refine lv_istore (lv' := [(11, .int 1), (9, .long z_1), (0, .ref h0), (1, .int a0), (2, .long a1), (4, .int a2), (5, .int a3), (6, .int a4), (7, .int a5), (8, .int 1)]) hx hb dX1_first_17 hl (by decide) rfl (fun ls hl => ?_)
    refine lv_iload hx hb dX1_first_19 (lv_at hl 0 rfl) ?_
    refine lv_if_lt (tgt := 266) hx hb dX1_first_21 (by decide) (fun c_21 => ?_) (fun c_21 => ?_)
    · skip
      exact absurd c_21 (by decide)
    · skip
      refine lv_lload hx hb dX1_first_24 (lv_at hl 1 rfl) ?_
      refine lv_ldc2 hx hb hown (hts (.constantLong RX1 53 4) (by decide +kernel)) dX1_first_26 ?_
      refine lv_iload hx hb dX1_first_29 (lv_at hl 0 rfl) ?_
      refine lv_iconst (v := 1) hx hb dX1_first_31 (by decide) ?_
      refine lv_icmp_ne (tgt := 46) hx hb dX1_first_32 (by decide) (fun c_32 => ?_) (fun c_32 => ?_)
      · skip
        exact absurd (by decide) c_32
      · skip
        refine lv_lload_n hx hb dX1_first_35 rfl (lv_at hl 4 rfl) ?_
        refine lv_bipush (v := 22) hx hb dX1_first_36 (by decide) ?_
        refine lv_lshr (v := jlshr a1 22) hx hb dX1_first_38 rfl ?_
        refine lv_ldc2 hx hb hown (hts (.constantLong RX1 44 1023) (by decide +kernel)) dX1_first_39 ?_
        refine lv_land hx hb dX1_first_42 ?_
        refine lv_goto (tgt := 54) hx hb dX1_first_43 (by decide) ?_
        refine lv_lmul hx hb dX1_first_54 ?_
        refine lv_ladd hx hb dX1_first_55 ?_
        refine lv_topl (fun z_2 ez_2 => ?_)
        refine lv_lstore (lv' := [(12, .long z_2), (11, .int 1), (9, .long z_1), (0, .ref h0), (1, .int a0), (2, .long a1), (4, .int a2), (5, .int a3), (6, .int a4), (7, .int a5), (8, .int 1)]) hx hb dX1_first_56 hl (by decide) rfl (fun ls hl => ?_)
        refine lv_iload hx hb dX1_first_58 (lv_at hl 10 rfl) ?_
        refine lv_if_eq (tgt := 76) hx hb dX1_first_60 (by decide) (fun c_60 => ?_) (fun c_60 => ?_)
        · skip
          exact absurd c_60 (by decide)
        · skip
          refine lv_aload_n hx hb dX1_first_63 rfl (lv_at hl 3 rfl) ?_
          refine lv_lload hx hb dX1_first_64 (lv_at hl 0 rfl) ?_
          refine lv_iconst (v := 1) hx hb dX1_first_66 (by decide) ?_
          refine lv_iload hx hb dX1_first_67 (lv_at hl 6 rfl) ?_
          refine lv_iconst (v := 1) hx hb dX1_first_69 (by decide) ?_
          refine cw_l (va_runV (As := [.long z_2, .int 1, .int a2, .int 1]) (rest := []) ⟨hx, hb, hml, hown, hts⟩ (ctm_second_w l dC dI h0 q_memory k_memory s.heap.size v_atp v_vsAtp v_hgatp v_rights v_code v_found v_wanted v_ofEntry m_memory z_2 1 a2 1 (Or.inr rfl)) (cwV 4 hts gX1_first_X1_second_w rfl rfl rfl (by decide +kernel) ⟨Nat.le_of_ble_eq_true rfl, Nat.le_of_ble_eq_true rfl⟩) ⟨fun a U g mk q => ⟨q.1, q.2.1, q.2.2.1, va_K.moved (u := U) (U := U.calling g mk a) (Vm.Alike.refl U.vm) q.2.2.2.1, q.2.2.2.2⟩, va_recv hK hP (ci := 1) (q0 := 0) rfl rfl, fun U hU hW => ⟨rfl, by rw [hU], by rw [hU]; exact hP, va_K.moved hW.alike hK, hD.weaken (fun _ _ _ _ => trivial)⟩⟩ rfl rfl hl.1 rfl (lv_room (Nat.le_of_ble_eq_true rfl)) dX1_first_70 ⟨Nat.zero_le _, Nat.zero_le _⟩) hA hD hP hS (fun o_3 H locs eo_3 hP hD hS => ?_)
          have hP : va_P (dC, dI) vwCl (wm h0 q_memory k_memory v_atp v_vsAtp v_hgatp v_rights o_3.2.1 v_found o_3.2.2.1 o_3.2.2.2 m_memory) H := hP
          have hD : va_D A (wm h0 q_memory k_memory v_atp v_vsAtp v_hgatp v_rights o_3.2.1 v_found o_3.2.2.1 o_3.2.2.2 m_memory) := hD
          refine lv_goto (tgt := 84) hx hb dX1_first_73 (by decide) ?_
          refine lv_topl (fun z_4 ez_4 => ?_)
          refine lv_lstore (lv' := [(12, .long z_4), (11, .int 1), (9, .long z_1), (0, .ref h0), (1, .int a0), (2, .long a1), (4, .int a2), (5, .int a3), (6, .int a4), (7, .int a5), (8, .int 1)]) hx hb dX1_first_84 hl (by decide) rfl (fun ls hl => ?_)
          refine lv_aload_n hx hb dX1_first_86 rfl (lv_at hl 3 rfl) ?_
          refine va_get (D := (dC, dI)) (ci := 1) (v := .int o_3.2.1) (C := RX1) (T := TX1) (N := 9) hx hb hts hwX hown hK hP 0 rfl rfl 5 (by decide) (hts (.fieldLink RX1 14 "StageWalkerModel" "code" "I") (by decide +kernel)) (fun _ h9 => h9) rfl dX1_first_87 ?_
          refine lv_if_eq (tgt := 95) hx hb dX1_first_90 (by decide) (fun c_90 => ?_) (fun c_90 => ?_)
          · skip
            refine lv_aload_n hx hb dX1_first_95 rfl (lv_at hl 3 rfl) ?_
            refine va_get (D := (dC, dI)) (ci := 1) (v := .ref q_memory) (C := RX1) (T := TX1) (N := 9) hx hb hts hwX hown hK hP 0 rfl rfl 0 (by decide) (hts (.fieldLink RX1 8 "StageWalkerModel" "memory" "[I") (by decide +kernel)) (fun _ h9 => h9) rfl dX1_first_96 ?_
            refine lv_lload hx hb dX1_first_99 (lv_at hl 0 rfl) ?_
            refine lv_ldc2 hx hb hown (hts (.constantLong RX1 53 4) (by decide +kernel)) dX1_first_101 ?_
            refine lv_ldiv hx hb dX1_first_104 (by decide) ?_
            refine lv_l2i (v := (z_4 / 4).toInt32) hx hb dX1_first_105 rfl ?_
            refine va_iald (cA := k_memory) (f := m_memory) hx hb hK hP 1 0 rfl rfl (i := (z_4 / 4).toInt32) (vg_1 ez_1 ez_2 eo_3 ez_4 c_90) dX1_first_106 ?_
            refine lv_topi (fun z_5 ez_5 => ?_)
            refine lv_istore (lv' := [(14, .int z_5), (12, .long z_4), (11, .int 1), (9, .long z_1), (0, .ref h0), (1, .int a0), (2, .long a1), (4, .int a2), (5, .int a3), (6, .int a4), (7, .int a5), (8, .int 1)]) hx hb dX1_first_107 hl (by decide) rfl (fun ls hl => ?_)
            refine lv_iload hx hb dX1_first_109 (lv_at hl 0 rfl) ?_
            refine cs_i (va_runS (As := [.int z_5]) (rest := []) ⟨hx, hb, hml, hown, hts⟩ (ctm_stands l H.size z_5) (va_cwS 1 hts gX1_first_X1_stands rfl rfl rfl (by decide +kernel) ⟨Nat.le_of_ble_eq_true rfl, Nat.le_of_ble_eq_true rfl⟩) ⟨fun a U g mk q => q, fun U hU hW => ⟨rfl, congrArg Array.size hU⟩⟩ rfl rfl hl.1 rfl (lv_room (Nat.le_of_ble_eq_true rfl)) dX1_first_111 ⟨Nat.zero_le _, Nat.zero_le _⟩) hA hP hS (fun H locs hP hS => ?_)
            refine lv_if_eq (tgt := 209) hx hb dX1_first_114 (by decide) (fun c_114 => ?_) (fun c_114 => ?_)
            · skip
              refine lv_iload hx hb dX1_first_209 (lv_at hl 0 rfl) ?_
              refine cs_i (va_runS (As := [.int z_5]) (rest := []) ⟨hx, hb, hml, hown, hts⟩ (ctm_stands l H.size z_5) (va_cwS 1 hts gX1_first_X1_stands rfl rfl rfl (by decide +kernel) ⟨Nat.le_of_ble_eq_true rfl, Nat.le_of_ble_eq_true rfl⟩) ⟨fun a U g mk q => q, fun U hU hW => ⟨rfl, congrArg Array.size hU⟩⟩ rfl rfl hl.1 rfl (lv_room (Nat.le_of_ble_eq_true rfl)) dX1_first_211 ⟨Nat.zero_le _, Nat.zero_le _⟩) hA hP hS (fun H locs hP hS => ?_)
              refine lv_if_eq (tgt := 246) hx hb dX1_first_214 (by decide) (fun c_214 => ?_) (fun c_214 => ?_)
              · skip
                refine lv_iconst (v := 0) hx hb dX1_first_246 (by decide) ?_
                refine lv_istore (lv' := [(11, .int 0), (14, .int z_5), (12, .long z_4), (9, .long z_1), (0, .ref h0), (1, .int a0), (2, .long a1), (4, .int a2), (5, .int a3), (6, .int a4), (7, .int a5), (8, .int 1)]) hx hb dX1_first_247 hl (by decide) rfl (fun ls hl => ?_)
                refine lv_iload hx hb dX1_first_249 (lv_at hl 1 rfl) ?_
                refine lv_bipush (v := 10) hx hb dX1_first_251 (by decide) ?_
                refine lv_iushr (v := jiushr z_5 10) hx hb dX1_first_253 rfl ?_
                refine lv_i2l (v := (jiushr z_5 10).toInt64) hx hb dX1_first_254 rfl ?_
                refine lv_bipush (v := 12) hx hb dX1_first_255 (by decide) ?_
                refine lv_lshl (v := jlshl ((jiushr z_5 10).toInt64) 12) hx hb dX1_first_257 rfl ?_
                refine lv_topl (fun z_6 ez_6 => ?_)
                refine lv_lstore (lv' := [(9, .long z_6), (11, .int 0), (14, .int z_5), (12, .long z_4), (0, .ref h0), (1, .int a0), (2, .long a1), (4, .int a2), (5, .int a3), (6, .int a4), (7, .int a5), (8, .int 1)]) hx hb dX1_first_258 hl (by decide) rfl (fun ls hl => ?_)
                refine lv_iinc (v := -1) (lv' := [(11, .int ((-1))), (9, .long z_6), (14, .int z_5), (12, .long z_4), (0, .ref h0), (1, .int a0), (2, .long a1), (4, .int a2), (5, .int a3), (6, .int a4), (7, .int a5), (8, .int 1)]) hx hb dX1_first_260 hl (k := 1) rfl (by decide) (by decide) rfl (fun ls hl => ?_)
                refine lv_goto (tgt := 19) hx hb dX1_first_263 (by decide) ?_
                refine lv_iload hx hb dX1_first_19 (lv_at hl 0 rfl) ?_
                refine lv_if_lt (tgt := 266) hx hb dX1_first_21 (by decide) (fun c_21b => ?_) (fun c_21b => ?_)
                · skip
                  refine lv_aload_n hx hb dX1_first_266 rfl (lv_at hl 4 rfl) ?_
                  refine lv_iload hx hb dX1_first_267 (lv_at hl 7 rfl) ?_
                  refine lv_bipush (v := 12) hx hb dX1_first_269 (by decide) ?_
                  refine lv_bipush (v := 13) hx hb dX1_first_271 (by decide) ?_
                  refine lv_bipush (v := 15) hx hb dX1_first_273 (by decide) ?_
                  refine cw_v (va_runV (As := [.int a2, .int 12, .int 13, .int 15]) (rest := []) ⟨hx, hb, hml, hown, hts⟩ (ctm_raise l dC dI h0 q_memory k_memory H.size v_atp v_vsAtp v_hgatp v_rights o_3.2.1 v_found o_3.2.2.1 o_3.2.2.2 m_memory a2 12 13 15) (cwV 4 hts gX1_first_X1_raise rfl rfl rfl (by decide +kernel) ⟨Nat.le_of_ble_eq_true rfl, Nat.le_of_ble_eq_true rfl⟩) ⟨fun a U g mk q => ⟨q.1, q.2.1, q.2.2.1, va_K.moved (u := U) (U := U.calling g mk a) (Vm.Alike.refl U.vm) q.2.2.2.1, q.2.2.2.2⟩, va_recv hK hP (ci := 1) (q0 := 0) rfl rfl, fun U hU hW => ⟨rfl, by rw [hU], by rw [hU]; exact hP, va_K.moved hW.alike hK, hD.weaken (fun _ _ _ _ => trivial)⟩⟩ rfl rfl hl.1 rfl (lv_room (Nat.le_of_ble_eq_true rfl)) dX1_first_275 ⟨Nat.zero_le _, Nat.zero_le _⟩) hA hD hP hS (fun o_7 H locs eo_7 hP hD hS => ?_)
                  have hP : va_P (dC, dI) vwCl (wm h0 q_memory k_memory v_atp v_vsAtp v_hgatp v_rights o_7 v_found o_3.2.2.1 o_3.2.2.2 m_memory) H := hP
                  have hD : va_D A (wm h0 q_memory k_memory v_atp v_vsAtp v_hgatp v_rights o_7 v_found o_3.2.2.1 o_3.2.2.2 m_memory) := hD
                  refine lv_lconst (v := 0) hx hb dX1_first_278 (by decide) ?_
                  exact W.lret (v := 0) hx hb hr (fun t ht hW => ⟨⟨_, (0, o_7, o_3.2.2.1, o_3.2.2.2), rfl, ⟨rfl, by subst eo_7; subst ez_6; subst ez_5; subst ez_4; subst eo_3; subst ez_2; subst ez_1; first | (rw [fm_first1, if_pos c_1, if_pos c_90, if_pos c_114]; done) | (simp only [fm_first1, if_pos c_1, if_pos c_90, if_pos c_114]; done) | (rw [fm_first1, if_pos c_1, if_pos c_90, if_pos c_114] <;> rfl)⟩, by rw [ht]; exact hP, va_K.moved hW.alike hK, hD⟩, hS.F ht⟩) hS.2.2 dX1_first_279
                · skip
                  exact absurd (by decide) c_21b
              · skip
                exact absurd c_114 c_214
            · skip
              refine lv_iload hx hb dX1_first_117 (lv_at hl 0 rfl) ?_
              refine cs_i (va_runS (As := [.int z_5]) (rest := []) ⟨hx, hb, hml, hown, hts⟩ (ctm_isLeaf l H.size z_5) (va_cwS 1 hts gX1_first_X1_isLeaf rfl rfl rfl (by decide +kernel) ⟨Nat.le_of_ble_eq_true rfl, Nat.le_of_ble_eq_true rfl⟩) ⟨fun a U g mk q => q, fun U hU hW => ⟨rfl, congrArg Array.size hU⟩⟩ rfl rfl hl.1 rfl (lv_room (Nat.le_of_ble_eq_true rfl)) dX1_first_119 ⟨Nat.zero_le _, Nat.zero_le _⟩) hA hP hS (fun H locs hP hS => ?_)
              refine lv_if_eq (tgt := 209) hx hb dX1_first_122 (by decide) (fun c_122 => ?_) (fun c_122 => ?_)
              · skip
                refine lv_iload hx hb dX1_first_209 (lv_at hl 0 rfl) ?_
                refine cs_i (va_runS (As := [.int z_5]) (rest := []) ⟨hx, hb, hml, hown, hts⟩ (ctm_stands l H.size z_5) (va_cwS 1 hts gX1_first_X1_stands rfl rfl rfl (by decide +kernel) ⟨Nat.le_of_ble_eq_true rfl, Nat.le_of_ble_eq_true rfl⟩) ⟨fun a U g mk q => q, fun U hU hW => ⟨rfl, congrArg Array.size hU⟩⟩ rfl rfl hl.1 rfl (lv_room (Nat.le_of_ble_eq_true rfl)) dX1_first_211 ⟨Nat.zero_le _, Nat.zero_le _⟩) hA hP hS (fun H locs hP hS => ?_)
                refine lv_if_eq (tgt := 246) hx hb dX1_first_214 (by decide) (fun c_214 => ?_) (fun c_214 => ?_)
                · skip
                  exact absurd c_214 c_114
                · skip
                  refine lv_iload hx hb dX1_first_217 (lv_at hl 0 rfl) ?_
                  refine lv_iconst (v := 4) hx hb dX1_first_219 (by decide) ?_
                  refine cs_i (va_runS (As := [.int z_5, .int 4]) (rest := []) ⟨hx, hb, hml, hown, hts⟩ (ctm_isSet l H.size z_5 4) (va_cwS 2 hts gX1_first_X1_isSet rfl rfl rfl (by decide +kernel) ⟨Nat.le_of_ble_eq_true rfl, Nat.le_of_ble_eq_true rfl⟩) ⟨fun a U g mk q => q, fun U hU hW => ⟨rfl, congrArg Array.size hU⟩⟩ rfl rfl hl.1 rfl (lv_room (Nat.le_of_ble_eq_true rfl)) dX1_first_220 ⟨Nat.zero_le _, Nat.zero_le _⟩) hA hP hS (fun H locs hP hS => ?_)
                  refine lv_if_ne (tgt := 246) hx hb dX1_first_223 (by decide) (fun c_223 => ?_) (fun c_223 => ?_)
                  · skip
                    refine lv_iconst (v := 0) hx hb dX1_first_246 (by decide) ?_
                    refine lv_istore (lv' := [(11, .int 0), (14, .int z_5), (12, .long z_4), (9, .long z_1), (0, .ref h0), (1, .int a0), (2, .long a1), (4, .int a2), (5, .int a3), (6, .int a4), (7, .int a5), (8, .int 1)]) hx hb dX1_first_247 hl (by decide) rfl (fun ls hl => ?_)
                    refine lv_iload hx hb dX1_first_249 (lv_at hl 1 rfl) ?_
                    refine lv_bipush (v := 10) hx hb dX1_first_251 (by decide) ?_
                    refine lv_iushr (v := jiushr z_5 10) hx hb dX1_first_253 rfl ?_
                    refine lv_i2l (v := (jiushr z_5 10).toInt64) hx hb dX1_first_254 rfl ?_
                    refine lv_bipush (v := 12) hx hb dX1_first_255 (by decide) ?_
                    refine lv_lshl (v := jlshl ((jiushr z_5 10).toInt64) 12) hx hb dX1_first_257 rfl ?_
                    refine lv_topl (fun z_8 ez_8 => ?_)
                    refine lv_lstore (lv' := [(9, .long z_8), (11, .int 0), (14, .int z_5), (12, .long z_4), (0, .ref h0), (1, .int a0), (2, .long a1), (4, .int a2), (5, .int a3), (6, .int a4), (7, .int a5), (8, .int 1)]) hx hb dX1_first_258 hl (by decide) rfl (fun ls hl => ?_)
                    refine lv_iinc (v := -1) (lv' := [(11, .int ((-1))), (9, .long z_8), (14, .int z_5), (12, .long z_4), (0, .ref h0), (1, .int a0), (2, .long a1), (4, .int a2), (5, .int a3), (6, .int a4), (7, .int a5), (8, .int 1)]) hx hb dX1_first_260 hl (k := 1) rfl (by decide) (by decide) rfl (fun ls hl => ?_)
                    refine lv_goto (tgt := 19) hx hb dX1_first_263 (by decide) ?_
                    refine lv_iload hx hb dX1_first_19 (lv_at hl 0 rfl) ?_
                    refine lv_if_lt (tgt := 266) hx hb dX1_first_21 (by decide) (fun c_21b => ?_) (fun c_21b => ?_)
                    · skip
                      refine lv_aload_n hx hb dX1_first_266 rfl (lv_at hl 4 rfl) ?_
                      refine lv_iload hx hb dX1_first_267 (lv_at hl 7 rfl) ?_
                      refine lv_bipush (v := 12) hx hb dX1_first_269 (by decide) ?_
                      refine lv_bipush (v := 13) hx hb dX1_first_271 (by decide) ?_
                      refine lv_bipush (v := 15) hx hb dX1_first_273 (by decide) ?_
                      refine cw_v (va_runV (As := [.int a2, .int 12, .int 13, .int 15]) (rest := []) ⟨hx, hb, hml, hown, hts⟩ (ctm_raise l dC dI h0 q_memory k_memory H.size v_atp v_vsAtp v_hgatp v_rights o_3.2.1 v_found o_3.2.2.1 o_3.2.2.2 m_memory a2 12 13 15) (cwV 4 hts gX1_first_X1_raise rfl rfl rfl (by decide +kernel) ⟨Nat.le_of_ble_eq_true rfl, Nat.le_of_ble_eq_true rfl⟩) ⟨fun a U g mk q => ⟨q.1, q.2.1, q.2.2.1, va_K.moved (u := U) (U := U.calling g mk a) (Vm.Alike.refl U.vm) q.2.2.2.1, q.2.2.2.2⟩, va_recv hK hP (ci := 1) (q0 := 0) rfl rfl, fun U hU hW => ⟨rfl, by rw [hU], by rw [hU]; exact hP, va_K.moved hW.alike hK, hD.weaken (fun _ _ _ _ => trivial)⟩⟩ rfl rfl hl.1 rfl (lv_room (Nat.le_of_ble_eq_true rfl)) dX1_first_275 ⟨Nat.zero_le _, Nat.zero_le _⟩) hA hD hP hS (fun o_9 H locs eo_9 hP hD hS => ?_)
                      have hP : va_P (dC, dI) vwCl (wm h0 q_memory k_memory v_atp v_vsAtp v_hgatp v_rights o_9 v_found o_3.2.2.1 o_3.2.2.2 m_memory) H := hP
                      have hD : va_D A (wm h0 q_memory k_memory v_atp v_vsAtp v_hgatp v_rights o_9 v_found o_3.2.2.1 o_3.2.2.2 m_memory) := hD
                      refine lv_lconst (v := 0) hx hb dX1_first_278 (by decide) ?_
                      exact W.lret (v := 0) hx hb hr (fun t ht hW => ⟨⟨_, (0, o_9, o_3.2.2.1, o_3.2.2.2), rfl, ⟨rfl, by subst eo_9; subst ez_8; subst ez_5; subst ez_4; subst eo_3; subst ez_2; subst ez_1; first | (rw [fm_first1, if_pos c_1, if_pos c_90, if_neg c_114, if_pos c_122, if_neg c_223]; done) | (simp only [fm_first1, if_pos c_1, if_pos c_90, if_neg c_114, if_pos c_122, if_neg c_223]; done) | (rw [fm_first1, if_pos c_1, if_pos c_90, if_neg c_114, if_pos c_122, if_neg c_223] <;> rfl)⟩, by rw [ht]; exact hP, va_K.moved hW.alike hK, hD⟩, hS.F ht⟩) hS.2.2 dX1_first_279
                    · skip
                      exact absurd (by decide) c_21b
                  · skip
                    refine lv_iload hx hb dX1_first_226 (lv_at hl 0 rfl) ?_
                    refine lv_bipush (v := 6) hx hb dX1_first_228 (by decide) ?_
                    refine cs_i (va_runS (As := [.int z_5, .int 6]) (rest := []) ⟨hx, hb, hml, hown, hts⟩ (ctm_isSet l H.size z_5 6) (va_cwS 2 hts gX1_first_X1_isSet rfl rfl rfl (by decide +kernel) ⟨Nat.le_of_ble_eq_true rfl, Nat.le_of_ble_eq_true rfl⟩) ⟨fun a U g mk q => q, fun U hU hW => ⟨rfl, congrArg Array.size hU⟩⟩ rfl rfl hl.1 rfl (lv_room (Nat.le_of_ble_eq_true rfl)) dX1_first_230 ⟨Nat.zero_le _, Nat.zero_le _⟩) hA hP hS (fun H locs hP hS => ?_)
                    refine lv_if_ne (tgt := 246) hx hb dX1_first_233 (by decide) (fun c_233 => ?_) (fun c_233 => ?_)
                    · skip
                      refine lv_iconst (v := 0) hx hb dX1_first_246 (by decide) ?_
                      refine lv_istore (lv' := [(11, .int 0), (14, .int z_5), (12, .long z_4), (9, .long z_1), (0, .ref h0), (1, .int a0), (2, .long a1), (4, .int a2), (5, .int a3), (6, .int a4), (7, .int a5), (8, .int 1)]) hx hb dX1_first_247 hl (by decide) rfl (fun ls hl => ?_)
                      refine lv_iload hx hb dX1_first_249 (lv_at hl 1 rfl) ?_
                      refine lv_bipush (v := 10) hx hb dX1_first_251 (by decide) ?_
                      refine lv_iushr (v := jiushr z_5 10) hx hb dX1_first_253 rfl ?_
                      refine lv_i2l (v := (jiushr z_5 10).toInt64) hx hb dX1_first_254 rfl ?_
                      refine lv_bipush (v := 12) hx hb dX1_first_255 (by decide) ?_
                      refine lv_lshl (v := jlshl ((jiushr z_5 10).toInt64) 12) hx hb dX1_first_257 rfl ?_
                      refine lv_topl (fun z_10 ez_10 => ?_)
                      refine lv_lstore (lv' := [(9, .long z_10), (11, .int 0), (14, .int z_5), (12, .long z_4), (0, .ref h0), (1, .int a0), (2, .long a1), (4, .int a2), (5, .int a3), (6, .int a4), (7, .int a5), (8, .int 1)]) hx hb dX1_first_258 hl (by decide) rfl (fun ls hl => ?_)
                      refine lv_iinc (v := -1) (lv' := [(11, .int ((-1))), (9, .long z_10), (14, .int z_5), (12, .long z_4), (0, .ref h0), (1, .int a0), (2, .long a1), (4, .int a2), (5, .int a3), (6, .int a4), (7, .int a5), (8, .int 1)]) hx hb dX1_first_260 hl (k := 1) rfl (by decide) (by decide) rfl (fun ls hl => ?_)
                      refine lv_goto (tgt := 19) hx hb dX1_first_263 (by decide) ?_
                      refine lv_iload hx hb dX1_first_19 (lv_at hl 0 rfl) ?_
                      refine lv_if_lt (tgt := 266) hx hb dX1_first_21 (by decide) (fun c_21b => ?_) (fun c_21b => ?_)
                      · skip
                        refine lv_aload_n hx hb dX1_first_266 rfl (lv_at hl 4 rfl) ?_
                        refine lv_iload hx hb dX1_first_267 (lv_at hl 7 rfl) ?_
                        refine lv_bipush (v := 12) hx hb dX1_first_269 (by decide) ?_
                        refine lv_bipush (v := 13) hx hb dX1_first_271 (by decide) ?_
                        refine lv_bipush (v := 15) hx hb dX1_first_273 (by decide) ?_
                        refine cw_v (va_runV (As := [.int a2, .int 12, .int 13, .int 15]) (rest := []) ⟨hx, hb, hml, hown, hts⟩ (ctm_raise l dC dI h0 q_memory k_memory H.size v_atp v_vsAtp v_hgatp v_rights o_3.2.1 v_found o_3.2.2.1 o_3.2.2.2 m_memory a2 12 13 15) (cwV 4 hts gX1_first_X1_raise rfl rfl rfl (by decide +kernel) ⟨Nat.le_of_ble_eq_true rfl, Nat.le_of_ble_eq_true rfl⟩) ⟨fun a U g mk q => ⟨q.1, q.2.1, q.2.2.1, va_K.moved (u := U) (U := U.calling g mk a) (Vm.Alike.refl U.vm) q.2.2.2.1, q.2.2.2.2⟩, va_recv hK hP (ci := 1) (q0 := 0) rfl rfl, fun U hU hW => ⟨rfl, by rw [hU], by rw [hU]; exact hP, va_K.moved hW.alike hK, hD.weaken (fun _ _ _ _ => trivial)⟩⟩ rfl rfl hl.1 rfl (lv_room (Nat.le_of_ble_eq_true rfl)) dX1_first_275 ⟨Nat.zero_le _, Nat.zero_le _⟩) hA hD hP hS (fun o_11 H locs eo_11 hP hD hS => ?_)
                        have hP : va_P (dC, dI) vwCl (wm h0 q_memory k_memory v_atp v_vsAtp v_hgatp v_rights o_11 v_found o_3.2.2.1 o_3.2.2.2 m_memory) H := hP
                        have hD : va_D A (wm h0 q_memory k_memory v_atp v_vsAtp v_hgatp v_rights o_11 v_found o_3.2.2.1 o_3.2.2.2 m_memory) := hD
                        refine lv_lconst (v := 0) hx hb dX1_first_278 (by decide) ?_
                        exact W.lret (v := 0) hx hb hr (fun t ht hW => ⟨⟨_, (0, o_11, o_3.2.2.1, o_3.2.2.2), rfl, ⟨rfl, by subst eo_11; subst ez_10; subst ez_5; subst ez_4; subst eo_3; subst ez_2; subst ez_1; first | (rw [fm_first1, if_pos c_1, if_pos c_90, if_neg c_114, if_pos c_122, if_pos c_223, if_neg c_233]; done) | (simp only [fm_first1, if_pos c_1, if_pos c_90, if_neg c_114, if_pos c_122, if_pos c_223, if_neg c_233]; done) | (rw [fm_first1, if_pos c_1, if_pos c_90, if_neg c_114, if_pos c_122, if_pos c_223, if_neg c_233] <;> rfl)⟩, by rw [ht]; exact hP, va_K.moved hW.alike hK, hD⟩, hS.F ht⟩) hS.2.2 dX1_first_279
                      · skip
                        exact absurd (by decide) c_21b
                    · skip
                      refine lv_iload hx hb dX1_first_236 (lv_at hl 0 rfl) ?_
                      refine lv_bipush (v := 7) hx hb dX1_first_238 (by decide) ?_
                      refine cs_i (va_runS (As := [.int z_5, .int 7]) (rest := []) ⟨hx, hb, hml, hown, hts⟩ (ctm_isSet l H.size z_5 7) (va_cwS 2 hts gX1_first_X1_isSet rfl rfl rfl (by decide +kernel) ⟨Nat.le_of_ble_eq_true rfl, Nat.le_of_ble_eq_true rfl⟩) ⟨fun a U g mk q => q, fun U hU hW => ⟨rfl, congrArg Array.size hU⟩⟩ rfl rfl hl.1 rfl (lv_room (Nat.le_of_ble_eq_true rfl)) dX1_first_240 ⟨Nat.zero_le _, Nat.zero_le _⟩) hA hP hS (fun H locs hP hS => ?_)
                      refine lv_if_eq (tgt := 249) hx hb dX1_first_243 (by decide) (fun c_243 => ?_) (fun c_243 => ?_)
                      · skip
                        refine lv_iload hx hb dX1_first_249 (lv_at hl 0 rfl) ?_
                        refine lv_bipush (v := 10) hx hb dX1_first_251 (by decide) ?_
                        refine lv_iushr (v := jiushr z_5 10) hx hb dX1_first_253 rfl ?_
                        refine lv_i2l (v := (jiushr z_5 10).toInt64) hx hb dX1_first_254 rfl ?_
                        refine lv_bipush (v := 12) hx hb dX1_first_255 (by decide) ?_
                        refine lv_lshl (v := jlshl ((jiushr z_5 10).toInt64) 12) hx hb dX1_first_257 rfl ?_
                        refine lv_topl (fun z_12 ez_12 => ?_)
                        refine lv_lstore (lv' := [(9, .long z_12), (14, .int z_5), (12, .long z_4), (11, .int 1), (0, .ref h0), (1, .int a0), (2, .long a1), (4, .int a2), (5, .int a3), (6, .int a4), (7, .int a5), (8, .int 1)]) hx hb dX1_first_258 hl (by decide) rfl (fun ls hl => ?_)
                        refine lv_iinc (v := 0) (lv' := [(11, .int 0), (9, .long z_12), (14, .int z_5), (12, .long z_4), (0, .ref h0), (1, .int a0), (2, .long a1), (4, .int a2), (5, .int a3), (6, .int a4), (7, .int a5), (8, .int 1)]) hx hb dX1_first_260 hl (k := 3) rfl (by decide) (by decide) rfl (fun ls hl => ?_)
                        refine lv_goto (tgt := 19) hx hb dX1_first_263 (by decide) ?_
                        refine lv_iload hx hb dX1_first_19 (lv_at hl 0 rfl) ?_
                        refine lv_if_lt (tgt := 266) hx hb dX1_first_21 (by decide) (fun c_21b => ?_) (fun c_21b => ?_)
                        · skip
                          exact absurd c_21b (by decide)
                        · skip
                          refine lv_lload hx hb dX1_first_24 (lv_at hl 1 rfl) ?_
                          refine lv_ldc2 hx hb hown (hts (.constantLong RX1 53 4) (by decide +kernel)) dX1_first_26 ?_
                          refine lv_iload hx hb dX1_first_29 (lv_at hl 0 rfl) ?_
                          refine lv_iconst (v := 1) hx hb dX1_first_31 (by decide) ?_
                          refine lv_icmp_ne (tgt := 46) hx hb dX1_first_32 (by decide) (fun c_32b => ?_) (fun c_32b => ?_)
                          · skip
                            refine lv_lload_n hx hb dX1_first_46 rfl (lv_at hl 6 rfl) ?_
                            refine lv_bipush (v := 12) hx hb dX1_first_47 (by decide) ?_
                            refine lv_lshr (v := jlshr a1 12) hx hb dX1_first_49 rfl ?_
                            refine lv_ldc2 hx hb hown (hts (.constantLong RX1 44 1023) (by decide +kernel)) dX1_first_50 ?_
                            refine lv_land hx hb dX1_first_53 ?_
                            refine lv_lmul hx hb dX1_first_54 ?_
                            refine lv_ladd hx hb dX1_first_55 ?_
                            refine lv_topl (fun z_13 ez_13 => ?_)
                            refine lv_lstore (lv' := [(12, .long z_13), (11, .int 0), (9, .long z_12), (14, .int z_5), (0, .ref h0), (1, .int a0), (2, .long a1), (4, .int a2), (5, .int a3), (6, .int a4), (7, .int a5), (8, .int 1)]) hx hb dX1_first_56 hl (by decide) rfl (fun ls hl => ?_)
                            refine lv_iload hx hb dX1_first_58 (lv_at hl 11 rfl) ?_
                            refine lv_if_eq (tgt := 76) hx hb dX1_first_60 (by decide) (fun c_60b => ?_) (fun c_60b => ?_)
                            · skip
                              exact absurd c_60b (by decide)
                            · skip
                              refine lv_aload_n hx hb dX1_first_63 rfl (lv_at hl 4 rfl) ?_
                              refine lv_lload hx hb dX1_first_64 (lv_at hl 0 rfl) ?_
                              refine lv_iconst (v := 1) hx hb dX1_first_66 (by decide) ?_
                              refine lv_iload hx hb dX1_first_67 (lv_at hl 7 rfl) ?_
                              refine lv_iconst (v := 1) hx hb dX1_first_69 (by decide) ?_
                              refine cw_l (va_runV (As := [.long z_13, .int 1, .int a2, .int 1]) (rest := []) ⟨hx, hb, hml, hown, hts⟩ (ctm_second_w l dC dI h0 q_memory k_memory H.size v_atp v_vsAtp v_hgatp v_rights o_3.2.1 v_found o_3.2.2.1 o_3.2.2.2 m_memory z_13 1 a2 1 (Or.inr rfl)) (cwV 4 hts gX1_first_X1_second_w rfl rfl rfl (by decide +kernel) ⟨Nat.le_of_ble_eq_true rfl, Nat.le_of_ble_eq_true rfl⟩) ⟨fun a U g mk q => ⟨q.1, q.2.1, q.2.2.1, va_K.moved (u := U) (U := U.calling g mk a) (Vm.Alike.refl U.vm) q.2.2.2.1, q.2.2.2.2⟩, va_recv hK hP (ci := 1) (q0 := 0) rfl rfl, fun U hU hW => ⟨rfl, by rw [hU], by rw [hU]; exact hP, va_K.moved hW.alike hK, hD.weaken (fun _ _ _ _ => trivial)⟩⟩ rfl rfl hl.1 rfl (lv_room (Nat.le_of_ble_eq_true rfl)) dX1_first_70 ⟨Nat.zero_le _, Nat.zero_le _⟩) hA hD hP hS (fun o_14 H locs eo_14 hP hD hS => ?_)
                              have hP : va_P (dC, dI) vwCl (wm h0 q_memory k_memory v_atp v_vsAtp v_hgatp v_rights o_14.2.1 v_found o_14.2.2.1 o_14.2.2.2 m_memory) H := hP
                              have hD : va_D A (wm h0 q_memory k_memory v_atp v_vsAtp v_hgatp v_rights o_14.2.1 v_found o_14.2.2.1 o_14.2.2.2 m_memory) := hD
                              refine lv_goto (tgt := 84) hx hb dX1_first_73 (by decide) ?_
                              refine lv_topl (fun z_15 ez_15 => ?_)
                              refine lv_lstore (lv' := [(12, .long z_15), (11, .int 0), (9, .long z_12), (14, .int z_5), (0, .ref h0), (1, .int a0), (2, .long a1), (4, .int a2), (5, .int a3), (6, .int a4), (7, .int a5), (8, .int 1)]) hx hb dX1_first_84 hl (by decide) rfl (fun ls hl => ?_)
                              refine lv_aload_n hx hb dX1_first_86 rfl (lv_at hl 4 rfl) ?_
                              refine va_get (D := (dC, dI)) (ci := 1) (v := .int o_14.2.1) (C := RX1) (T := TX1) (N := 9) hx hb hts hwX hown hK hP 0 rfl rfl 5 (by decide) (hts (.fieldLink RX1 14 "StageWalkerModel" "code" "I") (by decide +kernel)) (fun _ h9 => h9) rfl dX1_first_87 ?_
                              refine lv_if_eq (tgt := 95) hx hb dX1_first_90 (by decide) (fun c_90b => ?_) (fun c_90b => ?_)
                              · skip
                                refine lv_aload_n hx hb dX1_first_95 rfl (lv_at hl 4 rfl) ?_
                                refine va_get (D := (dC, dI)) (ci := 1) (v := .ref q_memory) (C := RX1) (T := TX1) (N := 9) hx hb hts hwX hown hK hP 0 rfl rfl 0 (by decide) (hts (.fieldLink RX1 8 "StageWalkerModel" "memory" "[I") (by decide +kernel)) (fun _ h9 => h9) rfl dX1_first_96 ?_
                                refine lv_lload hx hb dX1_first_99 (lv_at hl 0 rfl) ?_
                                refine lv_ldc2 hx hb hown (hts (.constantLong RX1 53 4) (by decide +kernel)) dX1_first_101 ?_
                                refine lv_ldiv hx hb dX1_first_104 (by decide) ?_
                                refine lv_l2i (v := (z_15 / 4).toInt32) hx hb dX1_first_105 rfl ?_
                                refine va_iald (cA := k_memory) (f := m_memory) hx hb hK hP 1 0 rfl rfl (i := (z_15 / 4).toInt32) (vg_0 ez_12 ez_13 eo_14 ez_15 c_90b) dX1_first_106 ?_
                                refine lv_topi (fun z_16 ez_16 => ?_)
                                refine lv_istore (lv' := [(14, .int z_16), (12, .long z_15), (11, .int 0), (9, .long z_12), (0, .ref h0), (1, .int a0), (2, .long a1), (4, .int a2), (5, .int a3), (6, .int a4), (7, .int a5), (8, .int 1)]) hx hb dX1_first_107 hl (by decide) rfl (fun ls hl => ?_)
                                refine lv_iload hx hb dX1_first_109 (lv_at hl 0 rfl) ?_
                                refine cs_i (va_runS (As := [.int z_16]) (rest := []) ⟨hx, hb, hml, hown, hts⟩ (ctm_stands l H.size z_16) (va_cwS 1 hts gX1_first_X1_stands rfl rfl rfl (by decide +kernel) ⟨Nat.le_of_ble_eq_true rfl, Nat.le_of_ble_eq_true rfl⟩) ⟨fun a U g mk q => q, fun U hU hW => ⟨rfl, congrArg Array.size hU⟩⟩ rfl rfl hl.1 rfl (lv_room (Nat.le_of_ble_eq_true rfl)) dX1_first_111 ⟨Nat.zero_le _, Nat.zero_le _⟩) hA hP hS (fun H locs hP hS => ?_)
                                refine lv_if_eq (tgt := 209) hx hb dX1_first_114 (by decide) (fun c_114b => ?_) (fun c_114b => ?_)
                                · skip
                                  refine lv_iload hx hb dX1_first_209 (lv_at hl 0 rfl) ?_
                                  refine cs_i (va_runS (As := [.int z_16]) (rest := []) ⟨hx, hb, hml, hown, hts⟩ (ctm_stands l H.size z_16) (va_cwS 1 hts gX1_first_X1_stands rfl rfl rfl (by decide +kernel) ⟨Nat.le_of_ble_eq_true rfl, Nat.le_of_ble_eq_true rfl⟩) ⟨fun a U g mk q => q, fun U hU hW => ⟨rfl, congrArg Array.size hU⟩⟩ rfl rfl hl.1 rfl (lv_room (Nat.le_of_ble_eq_true rfl)) dX1_first_211 ⟨Nat.zero_le _, Nat.zero_le _⟩) hA hP hS (fun H locs hP hS => ?_)
                                  refine lv_if_eq (tgt := 246) hx hb dX1_first_214 (by decide) (fun c_214b => ?_) (fun c_214b => ?_)
                                  · skip
                                    refine lv_iconst (v := 0) hx hb dX1_first_246 (by decide) ?_
                                    refine lv_istore (lv' := [(11, .int 0), (14, .int z_16), (12, .long z_15), (9, .long z_12), (0, .ref h0), (1, .int a0), (2, .long a1), (4, .int a2), (5, .int a3), (6, .int a4), (7, .int a5), (8, .int 1)]) hx hb dX1_first_247 hl (by decide) rfl (fun ls hl => ?_)
                                    refine lv_iload hx hb dX1_first_249 (lv_at hl 1 rfl) ?_
                                    refine lv_bipush (v := 10) hx hb dX1_first_251 (by decide) ?_
                                    refine lv_iushr (v := jiushr z_16 10) hx hb dX1_first_253 rfl ?_
                                    refine lv_i2l (v := (jiushr z_16 10).toInt64) hx hb dX1_first_254 rfl ?_
                                    refine lv_bipush (v := 12) hx hb dX1_first_255 (by decide) ?_
                                    refine lv_lshl (v := jlshl ((jiushr z_16 10).toInt64) 12) hx hb dX1_first_257 rfl ?_
                                    refine lv_topl (fun z_17 ez_17 => ?_)
                                    refine lv_lstore (lv' := [(9, .long z_17), (11, .int 0), (14, .int z_16), (12, .long z_15), (0, .ref h0), (1, .int a0), (2, .long a1), (4, .int a2), (5, .int a3), (6, .int a4), (7, .int a5), (8, .int 1)]) hx hb dX1_first_258 hl (by decide) rfl (fun ls hl => ?_)
                                    refine lv_iinc (v := -1) (lv' := [(11, .int ((-1))), (9, .long z_17), (14, .int z_16), (12, .long z_15), (0, .ref h0), (1, .int a0), (2, .long a1), (4, .int a2), (5, .int a3), (6, .int a4), (7, .int a5), (8, .int 1)]) hx hb dX1_first_260 hl (k := 1) rfl (by decide) (by decide) rfl (fun ls hl => ?_)
                                    refine lv_goto (tgt := 19) hx hb dX1_first_263 (by decide) ?_
                                    refine lv_iload hx hb dX1_first_19 (lv_at hl 0 rfl) ?_
                                    refine lv_if_lt (tgt := 266) hx hb dX1_first_21 (by decide) (fun c_21bb => ?_) (fun c_21bb => ?_)
                                    · skip
                                      refine lv_aload_n hx hb dX1_first_266 rfl (lv_at hl 4 rfl) ?_
                                      refine lv_iload hx hb dX1_first_267 (lv_at hl 7 rfl) ?_
                                      refine lv_bipush (v := 12) hx hb dX1_first_269 (by decide) ?_
                                      refine lv_bipush (v := 13) hx hb dX1_first_271 (by decide) ?_
                                      refine lv_bipush (v := 15) hx hb dX1_first_273 (by decide) ?_
                                      refine cw_v (va_runV (As := [.int a2, .int 12, .int 13, .int 15]) (rest := []) ⟨hx, hb, hml, hown, hts⟩ (ctm_raise l dC dI h0 q_memory k_memory H.size v_atp v_vsAtp v_hgatp v_rights o_14.2.1 v_found o_14.2.2.1 o_14.2.2.2 m_memory a2 12 13 15) (cwV 4 hts gX1_first_X1_raise rfl rfl rfl (by decide +kernel) ⟨Nat.le_of_ble_eq_true rfl, Nat.le_of_ble_eq_true rfl⟩) ⟨fun a U g mk q => ⟨q.1, q.2.1, q.2.2.1, va_K.moved (u := U) (U := U.calling g mk a) (Vm.Alike.refl U.vm) q.2.2.2.1, q.2.2.2.2⟩, va_recv hK hP (ci := 1) (q0 := 0) rfl rfl, fun U hU hW => ⟨rfl, by rw [hU], by rw [hU]; exact hP, va_K.moved hW.alike hK, hD.weaken (fun _ _ _ _ => trivial)⟩⟩ rfl rfl hl.1 rfl (lv_room (Nat.le_of_ble_eq_true rfl)) dX1_first_275 ⟨Nat.zero_le _, Nat.zero_le _⟩) hA hD hP hS (fun o_18 H locs eo_18 hP hD hS => ?_)
                                      have hP : va_P (dC, dI) vwCl (wm h0 q_memory k_memory v_atp v_vsAtp v_hgatp v_rights o_18 v_found o_14.2.2.1 o_14.2.2.2 m_memory) H := hP
                                      have hD : va_D A (wm h0 q_memory k_memory v_atp v_vsAtp v_hgatp v_rights o_18 v_found o_14.2.2.1 o_14.2.2.2 m_memory) := hD
                                      refine lv_lconst (v := 0) hx hb dX1_first_278 (by decide) ?_
                                      exact W.lret (v := 0) hx hb hr (fun t ht hW => ⟨⟨_, (0, o_18, o_14.2.2.1, o_14.2.2.2), rfl, ⟨rfl, by subst eo_18; subst ez_17; subst ez_16; subst ez_15; subst eo_14; subst ez_13; subst ez_12; subst ez_5; subst ez_4; subst eo_3; subst ez_2; subst ez_1; first | (rw [fm_first1, if_pos c_1, if_pos c_90, if_neg c_114, if_pos c_122, if_pos c_223, if_pos c_233, if_pos c_243, if_pos c_90b, if_pos c_114b]; done) | (simp only [fm_first1, if_pos c_1, if_pos c_90, if_neg c_114, if_pos c_122, if_pos c_223, if_pos c_233, if_pos c_243, if_pos c_90b, if_pos c_114b]; done) | (rw [fm_first1, if_pos c_1, if_pos c_90, if_neg c_114, if_pos c_122, if_pos c_223, if_pos c_233, if_pos c_243, if_pos c_90b, if_pos c_114b] <;> rfl)⟩, by rw [ht]; exact hP, va_K.moved hW.alike hK, hD⟩, hS.F ht⟩) hS.2.2 dX1_first_279
                                    · skip
                                      exact absurd (by decide) c_21bb
                                  · skip
                                    exact absurd c_114b c_214b
                                · skip
                                  refine lv_iload hx hb dX1_first_117 (lv_at hl 0 rfl) ?_
                                  refine cs_i (va_runS (As := [.int z_16]) (rest := []) ⟨hx, hb, hml, hown, hts⟩ (ctm_isLeaf l H.size z_16) (va_cwS 1 hts gX1_first_X1_isLeaf rfl rfl rfl (by decide +kernel) ⟨Nat.le_of_ble_eq_true rfl, Nat.le_of_ble_eq_true rfl⟩) ⟨fun a U g mk q => q, fun U hU hW => ⟨rfl, congrArg Array.size hU⟩⟩ rfl rfl hl.1 rfl (lv_room (Nat.le_of_ble_eq_true rfl)) dX1_first_119 ⟨Nat.zero_le _, Nat.zero_le _⟩) hA hP hS (fun H locs hP hS => ?_)
                                  refine lv_if_eq (tgt := 209) hx hb dX1_first_122 (by decide) (fun c_122b => ?_) (fun c_122b => ?_)
                                  · skip
                                    refine lv_iload hx hb dX1_first_209 (lv_at hl 0 rfl) ?_
                                    refine cs_i (va_runS (As := [.int z_16]) (rest := []) ⟨hx, hb, hml, hown, hts⟩ (ctm_stands l H.size z_16) (va_cwS 1 hts gX1_first_X1_stands rfl rfl rfl (by decide +kernel) ⟨Nat.le_of_ble_eq_true rfl, Nat.le_of_ble_eq_true rfl⟩) ⟨fun a U g mk q => q, fun U hU hW => ⟨rfl, congrArg Array.size hU⟩⟩ rfl rfl hl.1 rfl (lv_room (Nat.le_of_ble_eq_true rfl)) dX1_first_211 ⟨Nat.zero_le _, Nat.zero_le _⟩) hA hP hS (fun H locs hP hS => ?_)
                                    refine lv_if_eq (tgt := 246) hx hb dX1_first_214 (by decide) (fun c_214b => ?_) (fun c_214b => ?_)
                                    · skip
                                      exact absurd c_214b c_114b
                                    · skip
                                      refine lv_iload hx hb dX1_first_217 (lv_at hl 0 rfl) ?_
                                      refine lv_iconst (v := 4) hx hb dX1_first_219 (by decide) ?_
                                      refine cs_i (va_runS (As := [.int z_16, .int 4]) (rest := []) ⟨hx, hb, hml, hown, hts⟩ (ctm_isSet l H.size z_16 4) (va_cwS 2 hts gX1_first_X1_isSet rfl rfl rfl (by decide +kernel) ⟨Nat.le_of_ble_eq_true rfl, Nat.le_of_ble_eq_true rfl⟩) ⟨fun a U g mk q => q, fun U hU hW => ⟨rfl, congrArg Array.size hU⟩⟩ rfl rfl hl.1 rfl (lv_room (Nat.le_of_ble_eq_true rfl)) dX1_first_220 ⟨Nat.zero_le _, Nat.zero_le _⟩) hA hP hS (fun H locs hP hS => ?_)
                                      refine lv_if_ne (tgt := 246) hx hb dX1_first_223 (by decide) (fun c_223b => ?_) (fun c_223b => ?_)
                                      · skip
                                        refine lv_iconst (v := 0) hx hb dX1_first_246 (by decide) ?_
                                        refine lv_istore (lv' := [(11, .int 0), (14, .int z_16), (12, .long z_15), (9, .long z_12), (0, .ref h0), (1, .int a0), (2, .long a1), (4, .int a2), (5, .int a3), (6, .int a4), (7, .int a5), (8, .int 1)]) hx hb dX1_first_247 hl (by decide) rfl (fun ls hl => ?_)
                                        refine lv_iload hx hb dX1_first_249 (lv_at hl 1 rfl) ?_
                                        refine lv_bipush (v := 10) hx hb dX1_first_251 (by decide) ?_
                                        refine lv_iushr (v := jiushr z_16 10) hx hb dX1_first_253 rfl ?_
                                        refine lv_i2l (v := (jiushr z_16 10).toInt64) hx hb dX1_first_254 rfl ?_
                                        refine lv_bipush (v := 12) hx hb dX1_first_255 (by decide) ?_
                                        refine lv_lshl (v := jlshl ((jiushr z_16 10).toInt64) 12) hx hb dX1_first_257 rfl ?_
                                        refine lv_topl (fun z_19 ez_19 => ?_)
                                        refine lv_lstore (lv' := [(9, .long z_19), (11, .int 0), (14, .int z_16), (12, .long z_15), (0, .ref h0), (1, .int a0), (2, .long a1), (4, .int a2), (5, .int a3), (6, .int a4), (7, .int a5), (8, .int 1)]) hx hb dX1_first_258 hl (by decide) rfl (fun ls hl => ?_)
                                        refine lv_iinc (v := -1) (lv' := [(11, .int ((-1))), (9, .long z_19), (14, .int z_16), (12, .long z_15), (0, .ref h0), (1, .int a0), (2, .long a1), (4, .int a2), (5, .int a3), (6, .int a4), (7, .int a5), (8, .int 1)]) hx hb dX1_first_260 hl (k := 1) rfl (by decide) (by decide) rfl (fun ls hl => ?_)
                                        refine lv_goto (tgt := 19) hx hb dX1_first_263 (by decide) ?_
                                        refine lv_iload hx hb dX1_first_19 (lv_at hl 0 rfl) ?_
                                        refine lv_if_lt (tgt := 266) hx hb dX1_first_21 (by decide) (fun c_21bb => ?_) (fun c_21bb => ?_)
                                        · skip
                                          refine lv_aload_n hx hb dX1_first_266 rfl (lv_at hl 4 rfl) ?_
                                          refine lv_iload hx hb dX1_first_267 (lv_at hl 7 rfl) ?_
                                          refine lv_bipush (v := 12) hx hb dX1_first_269 (by decide) ?_
                                          refine lv_bipush (v := 13) hx hb dX1_first_271 (by decide) ?_
                                          refine lv_bipush (v := 15) hx hb dX1_first_273 (by decide) ?_
                                          refine cw_v (va_runV (As := [.int a2, .int 12, .int 13, .int 15]) (rest := []) ⟨hx, hb, hml, hown, hts⟩ (ctm_raise l dC dI h0 q_memory k_memory H.size v_atp v_vsAtp v_hgatp v_rights o_14.2.1 v_found o_14.2.2.1 o_14.2.2.2 m_memory a2 12 13 15) (cwV 4 hts gX1_first_X1_raise rfl rfl rfl (by decide +kernel) ⟨Nat.le_of_ble_eq_true rfl, Nat.le_of_ble_eq_true rfl⟩) ⟨fun a U g mk q => ⟨q.1, q.2.1, q.2.2.1, va_K.moved (u := U) (U := U.calling g mk a) (Vm.Alike.refl U.vm) q.2.2.2.1, q.2.2.2.2⟩, va_recv hK hP (ci := 1) (q0 := 0) rfl rfl, fun U hU hW => ⟨rfl, by rw [hU], by rw [hU]; exact hP, va_K.moved hW.alike hK, hD.weaken (fun _ _ _ _ => trivial)⟩⟩ rfl rfl hl.1 rfl (lv_room (Nat.le_of_ble_eq_true rfl)) dX1_first_275 ⟨Nat.zero_le _, Nat.zero_le _⟩) hA hD hP hS (fun o_20 H locs eo_20 hP hD hS => ?_)
                                          have hP : va_P (dC, dI) vwCl (wm h0 q_memory k_memory v_atp v_vsAtp v_hgatp v_rights o_20 v_found o_14.2.2.1 o_14.2.2.2 m_memory) H := hP
                                          have hD : va_D A (wm h0 q_memory k_memory v_atp v_vsAtp v_hgatp v_rights o_20 v_found o_14.2.2.1 o_14.2.2.2 m_memory) := hD
                                          refine lv_lconst (v := 0) hx hb dX1_first_278 (by decide) ?_
                                          exact W.lret (v := 0) hx hb hr (fun t ht hW => ⟨⟨_, (0, o_20, o_14.2.2.1, o_14.2.2.2), rfl, ⟨rfl, by subst eo_20; subst ez_19; subst ez_16; subst ez_15; subst eo_14; subst ez_13; subst ez_12; subst ez_5; subst ez_4; subst eo_3; subst ez_2; subst ez_1; first | (rw [fm_first1, if_pos c_1, if_pos c_90, if_neg c_114, if_pos c_122, if_pos c_223, if_pos c_233, if_pos c_243, if_pos c_90b, if_neg c_114b, if_pos c_122b, if_neg c_223b]; done) | (simp only [fm_first1, if_pos c_1, if_pos c_90, if_neg c_114, if_pos c_122, if_pos c_223, if_pos c_233, if_pos c_243, if_pos c_90b, if_neg c_114b, if_pos c_122b, if_neg c_223b]; done) | (rw [fm_first1, if_pos c_1, if_pos c_90, if_neg c_114, if_pos c_122, if_pos c_223, if_pos c_233, if_pos c_243, if_pos c_90b, if_neg c_114b, if_pos c_122b, if_neg c_223b] <;> rfl)⟩, by rw [ht]; exact hP, va_K.moved hW.alike hK, hD⟩, hS.F ht⟩) hS.2.2 dX1_first_279
                                        · skip
                                          exact absurd (by decide) c_21bb
                                      · skip
                                        refine lv_iload hx hb dX1_first_226 (lv_at hl 0 rfl) ?_
                                        refine lv_bipush (v := 6) hx hb dX1_first_228 (by decide) ?_
                                        refine cs_i (va_runS (As := [.int z_16, .int 6]) (rest := []) ⟨hx, hb, hml, hown, hts⟩ (ctm_isSet l H.size z_16 6) (va_cwS 2 hts gX1_first_X1_isSet rfl rfl rfl (by decide +kernel) ⟨Nat.le_of_ble_eq_true rfl, Nat.le_of_ble_eq_true rfl⟩) ⟨fun a U g mk q => q, fun U hU hW => ⟨rfl, congrArg Array.size hU⟩⟩ rfl rfl hl.1 rfl (lv_room (Nat.le_of_ble_eq_true rfl)) dX1_first_230 ⟨Nat.zero_le _, Nat.zero_le _⟩) hA hP hS (fun H locs hP hS => ?_)
                                        refine lv_if_ne (tgt := 246) hx hb dX1_first_233 (by decide) (fun c_233b => ?_) (fun c_233b => ?_)
                                        · skip
                                          refine lv_iconst (v := 0) hx hb dX1_first_246 (by decide) ?_
                                          refine lv_istore (lv' := [(11, .int 0), (14, .int z_16), (12, .long z_15), (9, .long z_12), (0, .ref h0), (1, .int a0), (2, .long a1), (4, .int a2), (5, .int a3), (6, .int a4), (7, .int a5), (8, .int 1)]) hx hb dX1_first_247 hl (by decide) rfl (fun ls hl => ?_)
                                          refine lv_iload hx hb dX1_first_249 (lv_at hl 1 rfl) ?_
                                          refine lv_bipush (v := 10) hx hb dX1_first_251 (by decide) ?_
                                          refine lv_iushr (v := jiushr z_16 10) hx hb dX1_first_253 rfl ?_
                                          refine lv_i2l (v := (jiushr z_16 10).toInt64) hx hb dX1_first_254 rfl ?_
                                          refine lv_bipush (v := 12) hx hb dX1_first_255 (by decide) ?_
                                          refine lv_lshl (v := jlshl ((jiushr z_16 10).toInt64) 12) hx hb dX1_first_257 rfl ?_
                                          refine lv_topl (fun z_21 ez_21 => ?_)
                                          refine lv_lstore (lv' := [(9, .long z_21), (11, .int 0), (14, .int z_16), (12, .long z_15), (0, .ref h0), (1, .int a0), (2, .long a1), (4, .int a2), (5, .int a3), (6, .int a4), (7, .int a5), (8, .int 1)]) hx hb dX1_first_258 hl (by decide) rfl (fun ls hl => ?_)
                                          refine lv_iinc (v := -1) (lv' := [(11, .int ((-1))), (9, .long z_21), (14, .int z_16), (12, .long z_15), (0, .ref h0), (1, .int a0), (2, .long a1), (4, .int a2), (5, .int a3), (6, .int a4), (7, .int a5), (8, .int 1)]) hx hb dX1_first_260 hl (k := 1) rfl (by decide) (by decide) rfl (fun ls hl => ?_)
                                          refine lv_goto (tgt := 19) hx hb dX1_first_263 (by decide) ?_
                                          refine lv_iload hx hb dX1_first_19 (lv_at hl 0 rfl) ?_
                                          refine lv_if_lt (tgt := 266) hx hb dX1_first_21 (by decide) (fun c_21bb => ?_) (fun c_21bb => ?_)
                                          · skip
                                            refine lv_aload_n hx hb dX1_first_266 rfl (lv_at hl 4 rfl) ?_
                                            refine lv_iload hx hb dX1_first_267 (lv_at hl 7 rfl) ?_
                                            refine lv_bipush (v := 12) hx hb dX1_first_269 (by decide) ?_
                                            refine lv_bipush (v := 13) hx hb dX1_first_271 (by decide) ?_
                                            refine lv_bipush (v := 15) hx hb dX1_first_273 (by decide) ?_
                                            refine cw_v (va_runV (As := [.int a2, .int 12, .int 13, .int 15]) (rest := []) ⟨hx, hb, hml, hown, hts⟩ (ctm_raise l dC dI h0 q_memory k_memory H.size v_atp v_vsAtp v_hgatp v_rights o_14.2.1 v_found o_14.2.2.1 o_14.2.2.2 m_memory a2 12 13 15) (cwV 4 hts gX1_first_X1_raise rfl rfl rfl (by decide +kernel) ⟨Nat.le_of_ble_eq_true rfl, Nat.le_of_ble_eq_true rfl⟩) ⟨fun a U g mk q => ⟨q.1, q.2.1, q.2.2.1, va_K.moved (u := U) (U := U.calling g mk a) (Vm.Alike.refl U.vm) q.2.2.2.1, q.2.2.2.2⟩, va_recv hK hP (ci := 1) (q0 := 0) rfl rfl, fun U hU hW => ⟨rfl, by rw [hU], by rw [hU]; exact hP, va_K.moved hW.alike hK, hD.weaken (fun _ _ _ _ => trivial)⟩⟩ rfl rfl hl.1 rfl (lv_room (Nat.le_of_ble_eq_true rfl)) dX1_first_275 ⟨Nat.zero_le _, Nat.zero_le _⟩) hA hD hP hS (fun o_22 H locs eo_22 hP hD hS => ?_)
                                            have hP : va_P (dC, dI) vwCl (wm h0 q_memory k_memory v_atp v_vsAtp v_hgatp v_rights o_22 v_found o_14.2.2.1 o_14.2.2.2 m_memory) H := hP
                                            have hD : va_D A (wm h0 q_memory k_memory v_atp v_vsAtp v_hgatp v_rights o_22 v_found o_14.2.2.1 o_14.2.2.2 m_memory) := hD
                                            refine lv_lconst (v := 0) hx hb dX1_first_278 (by decide) ?_
                                            exact W.lret (v := 0) hx hb hr (fun t ht hW => ⟨⟨_, (0, o_22, o_14.2.2.1, o_14.2.2.2), rfl, ⟨rfl, by subst eo_22; subst ez_21; subst ez_16; subst ez_15; subst eo_14; subst ez_13; subst ez_12; subst ez_5; subst ez_4; subst eo_3; subst ez_2; subst ez_1; first | (rw [fm_first1, if_pos c_1, if_pos c_90, if_neg c_114, if_pos c_122, if_pos c_223, if_pos c_233, if_pos c_243, if_pos c_90b, if_neg c_114b, if_pos c_122b, if_pos c_223b, if_neg c_233b]; done) | (simp only [fm_first1, if_pos c_1, if_pos c_90, if_neg c_114, if_pos c_122, if_pos c_223, if_pos c_233, if_pos c_243, if_pos c_90b, if_neg c_114b, if_pos c_122b, if_pos c_223b, if_neg c_233b]; done) | (rw [fm_first1, if_pos c_1, if_pos c_90, if_neg c_114, if_pos c_122, if_pos c_223, if_pos c_233, if_pos c_243, if_pos c_90b, if_neg c_114b, if_pos c_122b, if_pos c_223b, if_neg c_233b] <;> rfl)⟩, by rw [ht]; exact hP, va_K.moved hW.alike hK, hD⟩, hS.F ht⟩) hS.2.2 dX1_first_279
                                          · skip
                                            exact absurd (by decide) c_21bb
                                        · skip
                                          refine lv_iload hx hb dX1_first_236 (lv_at hl 0 rfl) ?_
                                          refine lv_bipush (v := 7) hx hb dX1_first_238 (by decide) ?_
                                          refine cs_i (va_runS (As := [.int z_16, .int 7]) (rest := []) ⟨hx, hb, hml, hown, hts⟩ (ctm_isSet l H.size z_16 7) (va_cwS 2 hts gX1_first_X1_isSet rfl rfl rfl (by decide +kernel) ⟨Nat.le_of_ble_eq_true rfl, Nat.le_of_ble_eq_true rfl⟩) ⟨fun a U g mk q => q, fun U hU hW => ⟨rfl, congrArg Array.size hU⟩⟩ rfl rfl hl.1 rfl (lv_room (Nat.le_of_ble_eq_true rfl)) dX1_first_240 ⟨Nat.zero_le _, Nat.zero_le _⟩) hA hP hS (fun H locs hP hS => ?_)
                                          refine lv_if_eq (tgt := 249) hx hb dX1_first_243 (by decide) (fun c_243b => ?_) (fun c_243b => ?_)
                                          · skip
                                            refine lv_iload hx hb dX1_first_249 (lv_at hl 0 rfl) ?_
                                            refine lv_bipush (v := 10) hx hb dX1_first_251 (by decide) ?_
                                            refine lv_iushr (v := jiushr z_16 10) hx hb dX1_first_253 rfl ?_
                                            refine lv_i2l (v := (jiushr z_16 10).toInt64) hx hb dX1_first_254 rfl ?_
                                            refine lv_bipush (v := 12) hx hb dX1_first_255 (by decide) ?_
                                            refine lv_lshl (v := jlshl ((jiushr z_16 10).toInt64) 12) hx hb dX1_first_257 rfl ?_
                                            refine lv_topl (fun z_23 ez_23 => ?_)
                                            refine lv_lstore (lv' := [(9, .long z_23), (14, .int z_16), (12, .long z_15), (11, .int 0), (0, .ref h0), (1, .int a0), (2, .long a1), (4, .int a2), (5, .int a3), (6, .int a4), (7, .int a5), (8, .int 1)]) hx hb dX1_first_258 hl (by decide) rfl (fun ls hl => ?_)
                                            refine lv_iinc (v := -1) (lv' := [(11, .int ((-1))), (9, .long z_23), (14, .int z_16), (12, .long z_15), (0, .ref h0), (1, .int a0), (2, .long a1), (4, .int a2), (5, .int a3), (6, .int a4), (7, .int a5), (8, .int 1)]) hx hb dX1_first_260 hl (k := 3) rfl (by decide) (by decide) rfl (fun ls hl => ?_)
                                            refine lv_goto (tgt := 19) hx hb dX1_first_263 (by decide) ?_
                                            refine lv_iload hx hb dX1_first_19 (lv_at hl 0 rfl) ?_
                                            refine lv_if_lt (tgt := 266) hx hb dX1_first_21 (by decide) (fun c_21bb => ?_) (fun c_21bb => ?_)
                                            · skip
                                              refine lv_aload_n hx hb dX1_first_266 rfl (lv_at hl 4 rfl) ?_
                                              refine lv_iload hx hb dX1_first_267 (lv_at hl 7 rfl) ?_
                                              refine lv_bipush (v := 12) hx hb dX1_first_269 (by decide) ?_
                                              refine lv_bipush (v := 13) hx hb dX1_first_271 (by decide) ?_
                                              refine lv_bipush (v := 15) hx hb dX1_first_273 (by decide) ?_
                                              refine cw_v (va_runV (As := [.int a2, .int 12, .int 13, .int 15]) (rest := []) ⟨hx, hb, hml, hown, hts⟩ (ctm_raise l dC dI h0 q_memory k_memory H.size v_atp v_vsAtp v_hgatp v_rights o_14.2.1 v_found o_14.2.2.1 o_14.2.2.2 m_memory a2 12 13 15) (cwV 4 hts gX1_first_X1_raise rfl rfl rfl (by decide +kernel) ⟨Nat.le_of_ble_eq_true rfl, Nat.le_of_ble_eq_true rfl⟩) ⟨fun a U g mk q => ⟨q.1, q.2.1, q.2.2.1, va_K.moved (u := U) (U := U.calling g mk a) (Vm.Alike.refl U.vm) q.2.2.2.1, q.2.2.2.2⟩, va_recv hK hP (ci := 1) (q0 := 0) rfl rfl, fun U hU hW => ⟨rfl, by rw [hU], by rw [hU]; exact hP, va_K.moved hW.alike hK, hD.weaken (fun _ _ _ _ => trivial)⟩⟩ rfl rfl hl.1 rfl (lv_room (Nat.le_of_ble_eq_true rfl)) dX1_first_275 ⟨Nat.zero_le _, Nat.zero_le _⟩) hA hD hP hS (fun o_24 H locs eo_24 hP hD hS => ?_)
                                              have hP : va_P (dC, dI) vwCl (wm h0 q_memory k_memory v_atp v_vsAtp v_hgatp v_rights o_24 v_found o_14.2.2.1 o_14.2.2.2 m_memory) H := hP
                                              have hD : va_D A (wm h0 q_memory k_memory v_atp v_vsAtp v_hgatp v_rights o_24 v_found o_14.2.2.1 o_14.2.2.2 m_memory) := hD
                                              refine lv_lconst (v := 0) hx hb dX1_first_278 (by decide) ?_
                                              exact W.lret (v := 0) hx hb hr (fun t ht hW => ⟨⟨_, (0, o_24, o_14.2.2.1, o_14.2.2.2), rfl, ⟨rfl, by subst eo_24; subst ez_23; subst ez_16; subst ez_15; subst eo_14; subst ez_13; subst ez_12; subst ez_5; subst ez_4; subst eo_3; subst ez_2; subst ez_1; first | (rw [fm_first1, if_pos c_1, if_pos c_90, if_neg c_114, if_pos c_122, if_pos c_223, if_pos c_233, if_pos c_243, if_pos c_90b, if_neg c_114b, if_pos c_122b, if_pos c_223b, if_pos c_233b, if_pos c_243b]; done) | (simp only [fm_first1, if_pos c_1, if_pos c_90, if_neg c_114, if_pos c_122, if_pos c_223, if_pos c_233, if_pos c_243, if_pos c_90b, if_neg c_114b, if_pos c_122b, if_pos c_223b, if_pos c_233b, if_pos c_243b]; done) | (rw [fm_first1, if_pos c_1, if_pos c_90, if_neg c_114, if_pos c_122, if_pos c_223, if_pos c_233, if_pos c_243, if_pos c_90b, if_neg c_114b, if_pos c_122b, if_pos c_223b, if_pos c_233b, if_pos c_243b] <;> rfl)⟩, by rw [ht]; exact hP, va_K.moved hW.alike hK, hD⟩, hS.F ht⟩) hS.2.2 dX1_first_279
                                            · skip
                                              exact absurd (by decide) c_21bb
                                          · skip
                                            refine lv_iconst (v := 0) hx hb dX1_first_246 (by decide) ?_
                                            refine lv_istore (lv' := [(11, .int 0), (14, .int z_16), (12, .long z_15), (9, .long z_12), (0, .ref h0), (1, .int a0), (2, .long a1), (4, .int a2), (5, .int a3), (6, .int a4), (7, .int a5), (8, .int 1)]) hx hb dX1_first_247 hl (by decide) rfl (fun ls hl => ?_)
                                            refine lv_iload hx hb dX1_first_249 (lv_at hl 1 rfl) ?_
                                            refine lv_bipush (v := 10) hx hb dX1_first_251 (by decide) ?_
                                            refine lv_iushr (v := jiushr z_16 10) hx hb dX1_first_253 rfl ?_
                                            refine lv_i2l (v := (jiushr z_16 10).toInt64) hx hb dX1_first_254 rfl ?_
                                            refine lv_bipush (v := 12) hx hb dX1_first_255 (by decide) ?_
                                            refine lv_lshl (v := jlshl ((jiushr z_16 10).toInt64) 12) hx hb dX1_first_257 rfl ?_
                                            refine lv_topl (fun z_25 ez_25 => ?_)
                                            refine lv_lstore (lv' := [(9, .long z_25), (11, .int 0), (14, .int z_16), (12, .long z_15), (0, .ref h0), (1, .int a0), (2, .long a1), (4, .int a2), (5, .int a3), (6, .int a4), (7, .int a5), (8, .int 1)]) hx hb dX1_first_258 hl (by decide) rfl (fun ls hl => ?_)
                                            refine lv_iinc (v := -1) (lv' := [(11, .int ((-1))), (9, .long z_25), (14, .int z_16), (12, .long z_15), (0, .ref h0), (1, .int a0), (2, .long a1), (4, .int a2), (5, .int a3), (6, .int a4), (7, .int a5), (8, .int 1)]) hx hb dX1_first_260 hl (k := 1) rfl (by decide) (by decide) rfl (fun ls hl => ?_)
                                            refine lv_goto (tgt := 19) hx hb dX1_first_263 (by decide) ?_
                                            refine lv_iload hx hb dX1_first_19 (lv_at hl 0 rfl) ?_
                                            refine lv_if_lt (tgt := 266) hx hb dX1_first_21 (by decide) (fun c_21bb => ?_) (fun c_21bb => ?_)
                                            · skip
                                              refine lv_aload_n hx hb dX1_first_266 rfl (lv_at hl 4 rfl) ?_
                                              refine lv_iload hx hb dX1_first_267 (lv_at hl 7 rfl) ?_
                                              refine lv_bipush (v := 12) hx hb dX1_first_269 (by decide) ?_
                                              refine lv_bipush (v := 13) hx hb dX1_first_271 (by decide) ?_
                                              refine lv_bipush (v := 15) hx hb dX1_first_273 (by decide) ?_
                                              refine cw_v (va_runV (As := [.int a2, .int 12, .int 13, .int 15]) (rest := []) ⟨hx, hb, hml, hown, hts⟩ (ctm_raise l dC dI h0 q_memory k_memory H.size v_atp v_vsAtp v_hgatp v_rights o_14.2.1 v_found o_14.2.2.1 o_14.2.2.2 m_memory a2 12 13 15) (cwV 4 hts gX1_first_X1_raise rfl rfl rfl (by decide +kernel) ⟨Nat.le_of_ble_eq_true rfl, Nat.le_of_ble_eq_true rfl⟩) ⟨fun a U g mk q => ⟨q.1, q.2.1, q.2.2.1, va_K.moved (u := U) (U := U.calling g mk a) (Vm.Alike.refl U.vm) q.2.2.2.1, q.2.2.2.2⟩, va_recv hK hP (ci := 1) (q0 := 0) rfl rfl, fun U hU hW => ⟨rfl, by rw [hU], by rw [hU]; exact hP, va_K.moved hW.alike hK, hD.weaken (fun _ _ _ _ => trivial)⟩⟩ rfl rfl hl.1 rfl (lv_room (Nat.le_of_ble_eq_true rfl)) dX1_first_275 ⟨Nat.zero_le _, Nat.zero_le _⟩) hA hD hP hS (fun o_26 H locs eo_26 hP hD hS => ?_)
                                              have hP : va_P (dC, dI) vwCl (wm h0 q_memory k_memory v_atp v_vsAtp v_hgatp v_rights o_26 v_found o_14.2.2.1 o_14.2.2.2 m_memory) H := hP
                                              have hD : va_D A (wm h0 q_memory k_memory v_atp v_vsAtp v_hgatp v_rights o_26 v_found o_14.2.2.1 o_14.2.2.2 m_memory) := hD
                                              refine lv_lconst (v := 0) hx hb dX1_first_278 (by decide) ?_
                                              exact W.lret (v := 0) hx hb hr (fun t ht hW => ⟨⟨_, (0, o_26, o_14.2.2.1, o_14.2.2.2), rfl, ⟨rfl, by subst eo_26; subst ez_25; subst ez_16; subst ez_15; subst eo_14; subst ez_13; subst ez_12; subst ez_5; subst ez_4; subst eo_3; subst ez_2; subst ez_1; first | (rw [fm_first1, if_pos c_1, if_pos c_90, if_neg c_114, if_pos c_122, if_pos c_223, if_pos c_233, if_pos c_243, if_pos c_90b, if_neg c_114b, if_pos c_122b, if_pos c_223b, if_pos c_233b, if_neg c_243b]; done) | (simp only [fm_first1, if_pos c_1, if_pos c_90, if_neg c_114, if_pos c_122, if_pos c_223, if_pos c_233, if_pos c_243, if_pos c_90b, if_neg c_114b, if_pos c_122b, if_pos c_223b, if_pos c_233b, if_neg c_243b]; done) | (rw [fm_first1, if_pos c_1, if_pos c_90, if_neg c_114, if_pos c_122, if_pos c_223, if_pos c_233, if_pos c_243, if_pos c_90b, if_neg c_114b, if_pos c_122b, if_pos c_223b, if_pos c_233b, if_neg c_243b] <;> rfl)⟩, by rw [ht]; exact hP, va_K.moved hW.alike hK, hD⟩, hS.F ht⟩) hS.2.2 dX1_first_279
                                            · skip
                                              exact absurd (by decide) c_21bb
                                  · skip
                                    refine lv_iload hx hb dX1_first_125 (lv_at hl 2 rfl) ?_
                                    refine lv_iconst (v := 1) hx hb dX1_first_127 (by decide) ?_
                                    refine lv_icmp_ne (tgt := 135) hx hb dX1_first_128 (by decide) (fun c_128 => ?_) (fun c_128 => ?_)
                                    · skip
                                      refine lv_iconst (v := 0) hx hb dX1_first_135 (by decide) ?_
                                      refine lv_istore (lv' := [(15, .int 0), (14, .int z_16), (12, .long z_15), (11, .int 0), (9, .long z_12), (0, .ref h0), (1, .int a0), (2, .long a1), (4, .int a2), (5, .int a3), (6, .int a4), (7, .int a5), (8, .int 1)]) hx hb dX1_first_136 hl (by decide) rfl (fun ls hl => ?_)
                                      refine lv_iload hx hb dX1_first_138 (lv_at hl 0 rfl) ?_
                                      refine lv_if_eq (tgt := 155) hx hb dX1_first_140 (by decide) (fun c_140 => ?_) (fun c_140 => ?_)
                                      · skip
                                        refine lv_iconst (v := 1) hx hb dX1_first_155 (by decide) ?_
                                        refine lv_goto (tgt := 160) hx hb dX1_first_156 (by decide) ?_
                                        refine lv_istore (lv' := [(16, .int 1), (15, .int 0), (14, .int z_16), (12, .long z_15), (11, .int 0), (9, .long z_12), (0, .ref h0), (1, .int a0), (2, .long a1), (4, .int a2), (5, .int a3), (6, .int a4), (7, .int a5), (8, .int 1)]) hx hb dX1_first_160 hl (by decide) rfl (fun ls hl => ?_)
                                        refine lv_iload hx hb dX1_first_162 (lv_at hl 0 rfl) ?_
                                        refine lv_if_eq (tgt := 203) hx hb dX1_first_164 (by decide) (fun c_164 => ?_) (fun c_164 => ?_)
                                        · skip
                                          exact absurd c_164 (by decide)
                                        · skip
                                          refine lv_aload_n hx hb dX1_first_167 rfl (lv_at hl 6 rfl) ?_
                                          refine lv_iload hx hb dX1_first_168 (lv_at hl 2 rfl) ?_
                                          refine lv_iload hx hb dX1_first_170 (lv_at hl 10 rfl) ?_
                                          refine lv_iload hx hb dX1_first_172 (lv_at hl 9 rfl) ?_
                                          refine lv_iload hx hb dX1_first_174 (lv_at hl 11 rfl) ?_
                                          refine cr_i (va_runV (As := [.int z_16, .int a3, .int a2, .int a4]) (rest := []) ⟨hx, hb, hml, hown, hts⟩ (ctm_userFits l dC dI h0 q_memory k_memory H.size v_atp v_vsAtp v_hgatp v_rights o_14.2.1 v_found o_14.2.2.1 o_14.2.2.2 m_memory z_16 a3 a2 a4) (cwV 4 hts gX1_first_X1_userFits rfl rfl rfl (by decide +kernel) ⟨Nat.le_of_ble_eq_true rfl, Nat.le_of_ble_eq_true rfl⟩) ⟨fun a U g mk q => ⟨q.1, q.2.1, q.2.2.1, va_K.moved (u := U) (U := U.calling g mk a) (Vm.Alike.refl U.vm) q.2.2.2.1, q.2.2.2.2⟩, va_recv hK hP (ci := 1) (q0 := 0) rfl rfl, fun U hU hW => ⟨rfl, by rw [hU], by rw [hU]; exact hP, va_K.moved hW.alike hK, hD.weaken (fun _ _ _ _ => trivial)⟩⟩ rfl rfl hl.1 rfl (lv_room (Nat.le_of_ble_eq_true rfl)) dX1_first_176 ⟨Nat.zero_le _, Nat.zero_le _⟩) hA hD hP hS (fun H locs hP hS => ?_)
                                          refine lv_if_eq (tgt := 203) hx hb dX1_first_179 (by decide) (fun c_179 => ?_) (fun c_179 => ?_)
                                          · skip
                                            refine lv_iconst (v := 0) hx hb dX1_first_203 (by decide) ?_
                                            refine lv_istore (lv' := [(11, .int 0), (16, .int 1), (15, .int 0), (14, .int z_16), (12, .long z_15), (9, .long z_12), (0, .ref h0), (1, .int a0), (2, .long a1), (4, .int a2), (5, .int a3), (6, .int a4), (7, .int a5), (8, .int 1)]) hx hb dX1_first_204 hl (by decide) rfl (fun ls hl => ?_)
                                            refine lv_goto (tgt := 249) hx hb dX1_first_206 (by decide) ?_
                                            refine lv_iload hx hb dX1_first_249 (lv_at hl 3 rfl) ?_
                                            refine lv_bipush (v := 10) hx hb dX1_first_251 (by decide) ?_
                                            refine lv_iushr (v := jiushr z_16 10) hx hb dX1_first_253 rfl ?_
                                            refine lv_i2l (v := (jiushr z_16 10).toInt64) hx hb dX1_first_254 rfl ?_
                                            refine lv_bipush (v := 12) hx hb dX1_first_255 (by decide) ?_
                                            refine lv_lshl (v := jlshl ((jiushr z_16 10).toInt64) 12) hx hb dX1_first_257 rfl ?_
                                            refine lv_topl (fun z_27 ez_27 => ?_)
                                            refine lv_lstore (lv' := [(9, .long z_27), (11, .int 0), (16, .int 1), (15, .int 0), (14, .int z_16), (12, .long z_15), (0, .ref h0), (1, .int a0), (2, .long a1), (4, .int a2), (5, .int a3), (6, .int a4), (7, .int a5), (8, .int 1)]) hx hb dX1_first_258 hl (by decide) rfl (fun ls hl => ?_)
                                            refine lv_iinc (v := -1) (lv' := [(11, .int ((-1))), (9, .long z_27), (16, .int 1), (15, .int 0), (14, .int z_16), (12, .long z_15), (0, .ref h0), (1, .int a0), (2, .long a1), (4, .int a2), (5, .int a3), (6, .int a4), (7, .int a5), (8, .int 1)]) hx hb dX1_first_260 hl (k := 1) rfl (by decide) (by decide) rfl (fun ls hl => ?_)
                                            refine lv_goto (tgt := 19) hx hb dX1_first_263 (by decide) ?_
                                            refine lv_iload hx hb dX1_first_19 (lv_at hl 0 rfl) ?_
                                            refine lv_if_lt (tgt := 266) hx hb dX1_first_21 (by decide) (fun c_21bb => ?_) (fun c_21bb => ?_)
                                            · skip
                                              refine lv_aload_n hx hb dX1_first_266 rfl (lv_at hl 6 rfl) ?_
                                              refine lv_iload hx hb dX1_first_267 (lv_at hl 9 rfl) ?_
                                              refine lv_bipush (v := 12) hx hb dX1_first_269 (by decide) ?_
                                              refine lv_bipush (v := 13) hx hb dX1_first_271 (by decide) ?_
                                              refine lv_bipush (v := 15) hx hb dX1_first_273 (by decide) ?_
                                              refine cw_v (va_runV (As := [.int a2, .int 12, .int 13, .int 15]) (rest := []) ⟨hx, hb, hml, hown, hts⟩ (ctm_raise l dC dI h0 q_memory k_memory H.size v_atp v_vsAtp v_hgatp v_rights o_14.2.1 v_found o_14.2.2.1 o_14.2.2.2 m_memory a2 12 13 15) (cwV 4 hts gX1_first_X1_raise rfl rfl rfl (by decide +kernel) ⟨Nat.le_of_ble_eq_true rfl, Nat.le_of_ble_eq_true rfl⟩) ⟨fun a U g mk q => ⟨q.1, q.2.1, q.2.2.1, va_K.moved (u := U) (U := U.calling g mk a) (Vm.Alike.refl U.vm) q.2.2.2.1, q.2.2.2.2⟩, va_recv hK hP (ci := 1) (q0 := 0) rfl rfl, fun U hU hW => ⟨rfl, by rw [hU], by rw [hU]; exact hP, va_K.moved hW.alike hK, hD.weaken (fun _ _ _ _ => trivial)⟩⟩ rfl rfl hl.1 rfl (lv_room (Nat.le_of_ble_eq_true rfl)) dX1_first_275 ⟨Nat.zero_le _, Nat.zero_le _⟩) hA hD hP hS (fun o_28 H locs eo_28 hP hD hS => ?_)
                                              have hP : va_P (dC, dI) vwCl (wm h0 q_memory k_memory v_atp v_vsAtp v_hgatp v_rights o_28 v_found o_14.2.2.1 o_14.2.2.2 m_memory) H := hP
                                              have hD : va_D A (wm h0 q_memory k_memory v_atp v_vsAtp v_hgatp v_rights o_28 v_found o_14.2.2.1 o_14.2.2.2 m_memory) := hD
                                              refine lv_lconst (v := 0) hx hb dX1_first_278 (by decide) ?_
                                              exact W.lret (v := 0) hx hb hr (fun t ht hW => ⟨⟨_, (0, o_28, o_14.2.2.1, o_14.2.2.2), rfl, ⟨rfl, by subst eo_28; subst ez_27; subst ez_16; subst ez_15; subst eo_14; subst ez_13; subst ez_12; subst ez_5; subst ez_4; subst eo_3; subst ez_2; subst ez_1; first | (rw [fm_first1, if_pos c_1, if_pos c_90, if_neg c_114, if_pos c_122, if_pos c_223, if_pos c_233, if_pos c_243, if_pos c_90b, if_neg c_114b, if_neg c_122b, if_pos c_179]; done) | (simp only [fm_first1, if_pos c_1, if_pos c_90, if_neg c_114, if_pos c_122, if_pos c_223, if_pos c_233, if_pos c_243, if_pos c_90b, if_neg c_114b, if_neg c_122b, if_pos c_179]; done) | (rw [fm_first1, if_pos c_1, if_pos c_90, if_neg c_114, if_pos c_122, if_pos c_223, if_pos c_233, if_pos c_243, if_pos c_90b, if_neg c_114b, if_neg c_122b, if_pos c_179] <;> rfl)⟩, by rw [ht]; exact hP, va_K.moved hW.alike hK, hD⟩, hS.F ht⟩) hS.2.2 dX1_first_279
                                            · skip
                                              exact absurd (by decide) c_21bb
                                          · skip
                                            refine lv_iload hx hb dX1_first_182 (lv_at hl 2 rfl) ?_
                                            refine lv_iload hx hb dX1_first_184 (lv_at hl 9 rfl) ?_
                                            refine lv_iload hx hb dX1_first_186 (lv_at hl 12 rfl) ?_
                                            refine cs_i (va_runS (As := [.int z_16, .int a2, .int a5]) (rest := []) ⟨hx, hb, hml, hown, hts⟩ (ctm_allows l H.size z_16 a2 a5) (va_cwS 3 hts gX1_first_X1_allows rfl rfl rfl (by decide +kernel) ⟨Nat.le_of_ble_eq_true rfl, Nat.le_of_ble_eq_true rfl⟩) ⟨fun a U g mk q => q, fun U hU hW => ⟨rfl, congrArg Array.size hU⟩⟩ rfl rfl hl.1 rfl (lv_room (Nat.le_of_ble_eq_true rfl)) dX1_first_188 ⟨Nat.zero_le _, Nat.zero_le _⟩) hA hP hS (fun H locs hP hS => ?_)
                                            refine lv_if_eq (tgt := 203) hx hb dX1_first_191 (by decide) (fun c_191 => ?_) (fun c_191 => ?_)
                                            · skip
                                              refine lv_iconst (v := 0) hx hb dX1_first_203 (by decide) ?_
                                              refine lv_istore (lv' := [(11, .int 0), (16, .int 1), (15, .int 0), (14, .int z_16), (12, .long z_15), (9, .long z_12), (0, .ref h0), (1, .int a0), (2, .long a1), (4, .int a2), (5, .int a3), (6, .int a4), (7, .int a5), (8, .int 1)]) hx hb dX1_first_204 hl (by decide) rfl (fun ls hl => ?_)
                                              refine lv_goto (tgt := 249) hx hb dX1_first_206 (by decide) ?_
                                              refine lv_iload hx hb dX1_first_249 (lv_at hl 3 rfl) ?_
                                              refine lv_bipush (v := 10) hx hb dX1_first_251 (by decide) ?_
                                              refine lv_iushr (v := jiushr z_16 10) hx hb dX1_first_253 rfl ?_
                                              refine lv_i2l (v := (jiushr z_16 10).toInt64) hx hb dX1_first_254 rfl ?_
                                              refine lv_bipush (v := 12) hx hb dX1_first_255 (by decide) ?_
                                              refine lv_lshl (v := jlshl ((jiushr z_16 10).toInt64) 12) hx hb dX1_first_257 rfl ?_
                                              refine lv_topl (fun z_29 ez_29 => ?_)
                                              refine lv_lstore (lv' := [(9, .long z_29), (11, .int 0), (16, .int 1), (15, .int 0), (14, .int z_16), (12, .long z_15), (0, .ref h0), (1, .int a0), (2, .long a1), (4, .int a2), (5, .int a3), (6, .int a4), (7, .int a5), (8, .int 1)]) hx hb dX1_first_258 hl (by decide) rfl (fun ls hl => ?_)
                                              refine lv_iinc (v := -1) (lv' := [(11, .int ((-1))), (9, .long z_29), (16, .int 1), (15, .int 0), (14, .int z_16), (12, .long z_15), (0, .ref h0), (1, .int a0), (2, .long a1), (4, .int a2), (5, .int a3), (6, .int a4), (7, .int a5), (8, .int 1)]) hx hb dX1_first_260 hl (k := 1) rfl (by decide) (by decide) rfl (fun ls hl => ?_)
                                              refine lv_goto (tgt := 19) hx hb dX1_first_263 (by decide) ?_
                                              refine lv_iload hx hb dX1_first_19 (lv_at hl 0 rfl) ?_
                                              refine lv_if_lt (tgt := 266) hx hb dX1_first_21 (by decide) (fun c_21bb => ?_) (fun c_21bb => ?_)
                                              · skip
                                                refine lv_aload_n hx hb dX1_first_266 rfl (lv_at hl 6 rfl) ?_
                                                refine lv_iload hx hb dX1_first_267 (lv_at hl 9 rfl) ?_
                                                refine lv_bipush (v := 12) hx hb dX1_first_269 (by decide) ?_
                                                refine lv_bipush (v := 13) hx hb dX1_first_271 (by decide) ?_
                                                refine lv_bipush (v := 15) hx hb dX1_first_273 (by decide) ?_
                                                refine cw_v (va_runV (As := [.int a2, .int 12, .int 13, .int 15]) (rest := []) ⟨hx, hb, hml, hown, hts⟩ (ctm_raise l dC dI h0 q_memory k_memory H.size v_atp v_vsAtp v_hgatp v_rights o_14.2.1 v_found o_14.2.2.1 o_14.2.2.2 m_memory a2 12 13 15) (cwV 4 hts gX1_first_X1_raise rfl rfl rfl (by decide +kernel) ⟨Nat.le_of_ble_eq_true rfl, Nat.le_of_ble_eq_true rfl⟩) ⟨fun a U g mk q => ⟨q.1, q.2.1, q.2.2.1, va_K.moved (u := U) (U := U.calling g mk a) (Vm.Alike.refl U.vm) q.2.2.2.1, q.2.2.2.2⟩, va_recv hK hP (ci := 1) (q0 := 0) rfl rfl, fun U hU hW => ⟨rfl, by rw [hU], by rw [hU]; exact hP, va_K.moved hW.alike hK, hD.weaken (fun _ _ _ _ => trivial)⟩⟩ rfl rfl hl.1 rfl (lv_room (Nat.le_of_ble_eq_true rfl)) dX1_first_275 ⟨Nat.zero_le _, Nat.zero_le _⟩) hA hD hP hS (fun o_30 H locs eo_30 hP hD hS => ?_)
                                                have hP : va_P (dC, dI) vwCl (wm h0 q_memory k_memory v_atp v_vsAtp v_hgatp v_rights o_30 v_found o_14.2.2.1 o_14.2.2.2 m_memory) H := hP
                                                have hD : va_D A (wm h0 q_memory k_memory v_atp v_vsAtp v_hgatp v_rights o_30 v_found o_14.2.2.1 o_14.2.2.2 m_memory) := hD
                                                refine lv_lconst (v := 0) hx hb dX1_first_278 (by decide) ?_
                                                exact W.lret (v := 0) hx hb hr (fun t ht hW => ⟨⟨_, (0, o_30, o_14.2.2.1, o_14.2.2.2), rfl, ⟨rfl, by subst eo_30; subst ez_29; subst ez_16; subst ez_15; subst eo_14; subst ez_13; subst ez_12; subst ez_5; subst ez_4; subst eo_3; subst ez_2; subst ez_1; first | (rw [fm_first1, if_pos c_1, if_pos c_90, if_neg c_114, if_pos c_122, if_pos c_223, if_pos c_233, if_pos c_243, if_pos c_90b, if_neg c_114b, if_neg c_122b, if_neg c_179, if_pos c_191]; done) | (simp only [fm_first1, if_pos c_1, if_pos c_90, if_neg c_114, if_pos c_122, if_pos c_223, if_pos c_233, if_pos c_243, if_pos c_90b, if_neg c_114b, if_neg c_122b, if_neg c_179, if_pos c_191]; done) | (rw [fm_first1, if_pos c_1, if_pos c_90, if_neg c_114, if_pos c_122, if_pos c_223, if_pos c_233, if_pos c_243, if_pos c_90b, if_neg c_114b, if_neg c_122b, if_neg c_179, if_pos c_191] <;> rfl)⟩, by rw [ht]; exact hP, va_K.moved hW.alike hK, hD⟩, hS.F ht⟩) hS.2.2 dX1_first_279
                                              · skip
                                                exact absurd (by decide) c_21bb
                                            · skip
                                              refine lv_iload hx hb dX1_first_194 (lv_at hl 2 rfl) ?_
                                              refine lv_iload hx hb dX1_first_196 (lv_at hl 1 rfl) ?_
                                              refine lv_lload_n hx hb dX1_first_198 rfl (lv_at hl 8 rfl) ?_
                                              refine cs_l (va_runS (As := [.int z_16, .int 0, .long a1]) (rest := []) ⟨hx, hb, hml, hown, hts⟩ (ctm_result l H.size z_16 0 a1) (va_cwS 3 hts gX1_first_X1_result rfl rfl rfl (by decide +kernel) ⟨Nat.le_of_ble_eq_true rfl, Nat.le_of_ble_eq_true rfl⟩) ⟨fun a U g mk q => q, fun U hU hW => ⟨rfl, congrArg Array.size hU⟩⟩ rfl rfl hl.1 rfl (lv_room (Nat.le_of_ble_eq_true rfl)) dX1_first_199 ⟨Nat.zero_le _, Nat.zero_le _⟩) hA hP hS (fun H locs hP hS => ?_)
                                              exact W.lret (v := (fm_result z_16 0 a1)) hx hb hr (fun t ht hW => ⟨⟨_, ((fm_result z_16 0 a1), o_14.2.1, o_14.2.2.1, o_14.2.2.2), rfl, ⟨rfl, by subst ez_16; subst ez_15; subst eo_14; subst ez_13; subst ez_12; subst ez_5; subst ez_4; subst eo_3; subst ez_2; subst ez_1; first | (rw [fm_first1, if_pos c_1, if_pos c_90, if_neg c_114, if_pos c_122, if_pos c_223, if_pos c_233, if_pos c_243, if_pos c_90b, if_neg c_114b, if_neg c_122b, if_neg c_179, if_neg c_191]; done) | (simp only [fm_first1, if_pos c_1, if_pos c_90, if_neg c_114, if_pos c_122, if_pos c_223, if_pos c_233, if_pos c_243, if_pos c_90b, if_neg c_114b, if_neg c_122b, if_neg c_179, if_neg c_191]; done) | (rw [fm_first1, if_pos c_1, if_pos c_90, if_neg c_114, if_pos c_122, if_pos c_223, if_pos c_233, if_pos c_243, if_pos c_90b, if_neg c_114b, if_neg c_122b, if_neg c_179, if_neg c_191] <;> rfl)⟩, by rw [ht]; exact hP, va_K.moved hW.alike hK, hD⟩, hS.F ht⟩) hS.2.2 dX1_first_202
                                      · skip
                                        exact absurd (by decide) c_140
                                    · skip
                                      exact absurd c_128 (by decide)
                              · skip
                                refine lv_lconst (v := 0) hx hb dX1_first_93 (by decide) ?_
                                exact W.lret (v := 0) hx hb hr (fun t ht hW => ⟨⟨_, (0, o_14.2.1, o_14.2.2.1, o_14.2.2.2), rfl, ⟨rfl, by subst ez_15; subst eo_14; subst ez_13; subst ez_12; subst ez_5; subst ez_4; subst eo_3; subst ez_2; subst ez_1; first | (rw [fm_first1, if_pos c_1, if_pos c_90, if_neg c_114, if_pos c_122, if_pos c_223, if_pos c_233, if_pos c_243, if_neg c_90b]; done) | (simp only [fm_first1, if_pos c_1, if_pos c_90, if_neg c_114, if_pos c_122, if_pos c_223, if_pos c_233, if_pos c_243, if_neg c_90b]; done) | (rw [fm_first1, if_pos c_1, if_pos c_90, if_neg c_114, if_pos c_122, if_pos c_223, if_pos c_233, if_pos c_243, if_neg c_90b] <;> rfl)⟩, by rw [ht]; exact hP, va_K.moved hW.alike hK, hD⟩, hS.F ht⟩) hS.2.2 dX1_first_94
                          · skip
                            exact absurd c_32b (by decide)
                      · skip
                        refine lv_iconst (v := 0) hx hb dX1_first_246 (by decide) ?_
                        refine lv_istore (lv' := [(11, .int 0), (14, .int z_5), (12, .long z_4), (9, .long z_1), (0, .ref h0), (1, .int a0), (2, .long a1), (4, .int a2), (5, .int a3), (6, .int a4), (7, .int a5), (8, .int 1)]) hx hb dX1_first_247 hl (by decide) rfl (fun ls hl => ?_)
                        refine lv_iload hx hb dX1_first_249 (lv_at hl 1 rfl) ?_
                        refine lv_bipush (v := 10) hx hb dX1_first_251 (by decide) ?_
                        refine lv_iushr (v := jiushr z_5 10) hx hb dX1_first_253 rfl ?_
                        refine lv_i2l (v := (jiushr z_5 10).toInt64) hx hb dX1_first_254 rfl ?_
                        refine lv_bipush (v := 12) hx hb dX1_first_255 (by decide) ?_
                        refine lv_lshl (v := jlshl ((jiushr z_5 10).toInt64) 12) hx hb dX1_first_257 rfl ?_
                        refine lv_topl (fun z_31 ez_31 => ?_)
                        refine lv_lstore (lv' := [(9, .long z_31), (11, .int 0), (14, .int z_5), (12, .long z_4), (0, .ref h0), (1, .int a0), (2, .long a1), (4, .int a2), (5, .int a3), (6, .int a4), (7, .int a5), (8, .int 1)]) hx hb dX1_first_258 hl (by decide) rfl (fun ls hl => ?_)
                        refine lv_iinc (v := -1) (lv' := [(11, .int ((-1))), (9, .long z_31), (14, .int z_5), (12, .long z_4), (0, .ref h0), (1, .int a0), (2, .long a1), (4, .int a2), (5, .int a3), (6, .int a4), (7, .int a5), (8, .int 1)]) hx hb dX1_first_260 hl (k := 1) rfl (by decide) (by decide) rfl (fun ls hl => ?_)
                        refine lv_goto (tgt := 19) hx hb dX1_first_263 (by decide) ?_
                        refine lv_iload hx hb dX1_first_19 (lv_at hl 0 rfl) ?_
                        refine lv_if_lt (tgt := 266) hx hb dX1_first_21 (by decide) (fun c_21b => ?_) (fun c_21b => ?_)
                        · skip
                          refine lv_aload_n hx hb dX1_first_266 rfl (lv_at hl 4 rfl) ?_
                          refine lv_iload hx hb dX1_first_267 (lv_at hl 7 rfl) ?_
                          refine lv_bipush (v := 12) hx hb dX1_first_269 (by decide) ?_
                          refine lv_bipush (v := 13) hx hb dX1_first_271 (by decide) ?_
                          refine lv_bipush (v := 15) hx hb dX1_first_273 (by decide) ?_
                          refine cw_v (va_runV (As := [.int a2, .int 12, .int 13, .int 15]) (rest := []) ⟨hx, hb, hml, hown, hts⟩ (ctm_raise l dC dI h0 q_memory k_memory H.size v_atp v_vsAtp v_hgatp v_rights o_3.2.1 v_found o_3.2.2.1 o_3.2.2.2 m_memory a2 12 13 15) (cwV 4 hts gX1_first_X1_raise rfl rfl rfl (by decide +kernel) ⟨Nat.le_of_ble_eq_true rfl, Nat.le_of_ble_eq_true rfl⟩) ⟨fun a U g mk q => ⟨q.1, q.2.1, q.2.2.1, va_K.moved (u := U) (U := U.calling g mk a) (Vm.Alike.refl U.vm) q.2.2.2.1, q.2.2.2.2⟩, va_recv hK hP (ci := 1) (q0 := 0) rfl rfl, fun U hU hW => ⟨rfl, by rw [hU], by rw [hU]; exact hP, va_K.moved hW.alike hK, hD.weaken (fun _ _ _ _ => trivial)⟩⟩ rfl rfl hl.1 rfl (lv_room (Nat.le_of_ble_eq_true rfl)) dX1_first_275 ⟨Nat.zero_le _, Nat.zero_le _⟩) hA hD hP hS (fun o_32 H locs eo_32 hP hD hS => ?_)
                          have hP : va_P (dC, dI) vwCl (wm h0 q_memory k_memory v_atp v_vsAtp v_hgatp v_rights o_32 v_found o_3.2.2.1 o_3.2.2.2 m_memory) H := hP
                          have hD : va_D A (wm h0 q_memory k_memory v_atp v_vsAtp v_hgatp v_rights o_32 v_found o_3.2.2.1 o_3.2.2.2 m_memory) := hD
                          refine lv_lconst (v := 0) hx hb dX1_first_278 (by decide) ?_
                          exact W.lret (v := 0) hx hb hr (fun t ht hW => ⟨⟨_, (0, o_32, o_3.2.2.1, o_3.2.2.2), rfl, ⟨rfl, by subst eo_32; subst ez_31; subst ez_5; subst ez_4; subst eo_3; subst ez_2; subst ez_1; first | (rw [fm_first1, if_pos c_1, if_pos c_90, if_neg c_114, if_pos c_122, if_pos c_223, if_pos c_233, if_neg c_243]; done) | (simp only [fm_first1, if_pos c_1, if_pos c_90, if_neg c_114, if_pos c_122, if_pos c_223, if_pos c_233, if_neg c_243]; done) | (rw [fm_first1, if_pos c_1, if_pos c_90, if_neg c_114, if_pos c_122, if_pos c_223, if_pos c_233, if_neg c_243] <;> rfl)⟩, by rw [ht]; exact hP, va_K.moved hW.alike hK, hD⟩, hS.F ht⟩) hS.2.2 dX1_first_279
                        · skip
                          exact absurd (by decide) c_21b
              · skip
                refine lv_iload hx hb dX1_first_125 (lv_at hl 2 rfl) ?_
                refine lv_iconst (v := 1) hx hb dX1_first_127 (by decide) ?_
                refine lv_icmp_ne (tgt := 135) hx hb dX1_first_128 (by decide) (fun c_128 => ?_) (fun c_128 => ?_)
                · skip
                  exact absurd (by decide) c_128
                · skip
                  refine lv_iconst (v := 1) hx hb dX1_first_131 (by decide) ?_
                  refine lv_goto (tgt := 136) hx hb dX1_first_132 (by decide) ?_
                  refine lv_istore (lv' := [(15, .int 1), (14, .int z_5), (12, .long z_4), (11, .int 1), (9, .long z_1), (0, .ref h0), (1, .int a0), (2, .long a1), (4, .int a2), (5, .int a3), (6, .int a4), (7, .int a5), (8, .int 1)]) hx hb dX1_first_136 hl (by decide) rfl (fun ls hl => ?_)
                  refine lv_iload hx hb dX1_first_138 (lv_at hl 0 rfl) ?_
                  refine lv_if_eq (tgt := 155) hx hb dX1_first_140 (by decide) (fun c_140 => ?_) (fun c_140 => ?_)
                  · skip
                    exact absurd c_140 (by decide)
                  · skip
                    refine lv_iload hx hb dX1_first_143 (lv_at hl 1 rfl) ?_
                    refine lv_bipush (v := 10) hx hb dX1_first_145 (by decide) ?_
                    refine lv_ishr hx hb dX1_first_147 ?_
                    refine lv_sipush (v := 1023) hx hb dX1_first_148 (by decide) ?_
                    refine lv_iand hx hb dX1_first_151 ?_
                    refine lj_i (j := 160) (z0 := if ((z_5 >>> (10 &&& 31)) &&& 1023) = 0 then 1 else 0) (rest := []) hP hS (fun H locs hP hS z_33 ez_33 => ?_) (fun J160_152 => ?_)
                    · skip
                      have oz_33 : z_33 = 0 ∨ z_33 = 1 := by rw [ez_33]; exact ite01 (Or.inr rfl) (Or.inl rfl)
                      refine lv_istore (lv' := [(16, .int z_33), (15, .int 1), (14, .int z_5), (12, .long z_4), (11, .int 1), (9, .long z_1), (0, .ref h0), (1, .int a0), (2, .long a1), (4, .int a2), (5, .int a3), (6, .int a4), (7, .int a5), (8, .int 1)]) hx hb dX1_first_160 hl (by decide) rfl (fun ls hl => ?_)
                      refine lv_iload hx hb dX1_first_162 (lv_at hl 0 rfl) ?_
                      refine lv_if_eq (tgt := 203) hx hb dX1_first_164 (by decide) (fun c_164 => ?_) (fun c_164 => ?_)
                      · skip
                        refine lv_iconst (v := 0) hx hb dX1_first_203 (by decide) ?_
                        refine lv_istore (lv' := [(11, .int 0), (16, .int z_33), (15, .int 1), (14, .int z_5), (12, .long z_4), (9, .long z_1), (0, .ref h0), (1, .int a0), (2, .long a1), (4, .int a2), (5, .int a3), (6, .int a4), (7, .int a5), (8, .int 1)]) hx hb dX1_first_204 hl (by decide) rfl (fun ls hl => ?_)
                        refine lv_goto (tgt := 249) hx hb dX1_first_206 (by decide) ?_
                        refine lv_iload hx hb dX1_first_249 (lv_at hl 3 rfl) ?_
                        refine lv_bipush (v := 10) hx hb dX1_first_251 (by decide) ?_
                        refine lv_iushr (v := jiushr z_5 10) hx hb dX1_first_253 rfl ?_
                        refine lv_i2l (v := (jiushr z_5 10).toInt64) hx hb dX1_first_254 rfl ?_
                        refine lv_bipush (v := 12) hx hb dX1_first_255 (by decide) ?_
                        refine lv_lshl (v := jlshl ((jiushr z_5 10).toInt64) 12) hx hb dX1_first_257 rfl ?_
                        refine lv_topl (fun z_34 ez_34 => ?_)
                        refine lv_lstore (lv' := [(9, .long z_34), (11, .int 0), (16, .int z_33), (15, .int 1), (14, .int z_5), (12, .long z_4), (0, .ref h0), (1, .int a0), (2, .long a1), (4, .int a2), (5, .int a3), (6, .int a4), (7, .int a5), (8, .int 1)]) hx hb dX1_first_258 hl (by decide) rfl (fun ls hl => ?_)
                        refine lv_iinc (v := -1) (lv' := [(11, .int ((-1))), (9, .long z_34), (16, .int z_33), (15, .int 1), (14, .int z_5), (12, .long z_4), (0, .ref h0), (1, .int a0), (2, .long a1), (4, .int a2), (5, .int a3), (6, .int a4), (7, .int a5), (8, .int 1)]) hx hb dX1_first_260 hl (k := 1) rfl (by decide) (by decide) rfl (fun ls hl => ?_)
                        refine lv_goto (tgt := 19) hx hb dX1_first_263 (by decide) ?_
                        refine lv_iload hx hb dX1_first_19 (lv_at hl 0 rfl) ?_
                        refine lv_if_lt (tgt := 266) hx hb dX1_first_21 (by decide) (fun c_21b => ?_) (fun c_21b => ?_)
                        · skip
                          refine lv_aload_n hx hb dX1_first_266 rfl (lv_at hl 6 rfl) ?_
                          refine lv_iload hx hb dX1_first_267 (lv_at hl 9 rfl) ?_
                          refine lv_bipush (v := 12) hx hb dX1_first_269 (by decide) ?_
                          refine lv_bipush (v := 13) hx hb dX1_first_271 (by decide) ?_
                          refine lv_bipush (v := 15) hx hb dX1_first_273 (by decide) ?_
                          refine cw_v (va_runV (As := [.int a2, .int 12, .int 13, .int 15]) (rest := []) ⟨hx, hb, hml, hown, hts⟩ (ctm_raise l dC dI h0 q_memory k_memory H.size v_atp v_vsAtp v_hgatp v_rights o_3.2.1 v_found o_3.2.2.1 o_3.2.2.2 m_memory a2 12 13 15) (cwV 4 hts gX1_first_X1_raise rfl rfl rfl (by decide +kernel) ⟨Nat.le_of_ble_eq_true rfl, Nat.le_of_ble_eq_true rfl⟩) ⟨fun a U g mk q => ⟨q.1, q.2.1, q.2.2.1, va_K.moved (u := U) (U := U.calling g mk a) (Vm.Alike.refl U.vm) q.2.2.2.1, q.2.2.2.2⟩, va_recv hK hP (ci := 1) (q0 := 0) rfl rfl, fun U hU hW => ⟨rfl, by rw [hU], by rw [hU]; exact hP, va_K.moved hW.alike hK, hD.weaken (fun _ _ _ _ => trivial)⟩⟩ rfl rfl hl.1 rfl (lv_room (Nat.le_of_ble_eq_true rfl)) dX1_first_275 ⟨Nat.zero_le _, Nat.zero_le _⟩) hA hD hP hS (fun o_35 H locs eo_35 hP hD hS => ?_)
                          have hP : va_P (dC, dI) vwCl (wm h0 q_memory k_memory v_atp v_vsAtp v_hgatp v_rights o_35 v_found o_3.2.2.1 o_3.2.2.2 m_memory) H := hP
                          have hD : va_D A (wm h0 q_memory k_memory v_atp v_vsAtp v_hgatp v_rights o_35 v_found o_3.2.2.1 o_3.2.2.2 m_memory) := hD
                          refine lv_lconst (v := 0) hx hb dX1_first_278 (by decide) ?_
                          exact W.lret (v := 0) hx hb hr (fun t ht hW => ⟨⟨_, (0, o_35, o_3.2.2.1, o_3.2.2.2), rfl, ⟨rfl, by subst eo_35; subst ez_34; subst ez_33; subst ez_5; subst ez_4; subst eo_3; subst ez_2; subst ez_1; first | (rw [fm_first1, if_pos c_1, if_pos c_90, if_neg c_114, if_neg c_122, if_pos c_164]; done) | (simp only [fm_first1, if_pos c_1, if_pos c_90, if_neg c_114, if_neg c_122, if_pos c_164]; done) | (rw [fm_first1, if_pos c_1, if_pos c_90, if_neg c_114, if_neg c_122, if_pos c_164] <;> rfl)⟩, by rw [ht]; exact hP, va_K.moved hW.alike hK, hD⟩, hS.F ht⟩) hS.2.2 dX1_first_279
                        · skip
                          exact absurd (by decide) c_21b
                      · skip
                        refine lv_aload_n hx hb dX1_first_167 rfl (lv_at hl 6 rfl) ?_
                        refine lv_iload hx hb dX1_first_168 (lv_at hl 2 rfl) ?_
                        refine lv_iload hx hb dX1_first_170 (lv_at hl 10 rfl) ?_
                        refine lv_iload hx hb dX1_first_172 (lv_at hl 9 rfl) ?_
                        refine lv_iload hx hb dX1_first_174 (lv_at hl 11 rfl) ?_
                        refine cr_i (va_runV (As := [.int z_5, .int a3, .int a2, .int a4]) (rest := []) ⟨hx, hb, hml, hown, hts⟩ (ctm_userFits l dC dI h0 q_memory k_memory H.size v_atp v_vsAtp v_hgatp v_rights o_3.2.1 v_found o_3.2.2.1 o_3.2.2.2 m_memory z_5 a3 a2 a4) (cwV 4 hts gX1_first_X1_userFits rfl rfl rfl (by decide +kernel) ⟨Nat.le_of_ble_eq_true rfl, Nat.le_of_ble_eq_true rfl⟩) ⟨fun a U g mk q => ⟨q.1, q.2.1, q.2.2.1, va_K.moved (u := U) (U := U.calling g mk a) (Vm.Alike.refl U.vm) q.2.2.2.1, q.2.2.2.2⟩, va_recv hK hP (ci := 1) (q0 := 0) rfl rfl, fun U hU hW => ⟨rfl, by rw [hU], by rw [hU]; exact hP, va_K.moved hW.alike hK, hD.weaken (fun _ _ _ _ => trivial)⟩⟩ rfl rfl hl.1 rfl (lv_room (Nat.le_of_ble_eq_true rfl)) dX1_first_176 ⟨Nat.zero_le _, Nat.zero_le _⟩) hA hD hP hS (fun H locs hP hS => ?_)
                        refine lv_if_eq (tgt := 203) hx hb dX1_first_179 (by decide) (fun c_179 => ?_) (fun c_179 => ?_)
                        · skip
                          refine lv_iconst (v := 0) hx hb dX1_first_203 (by decide) ?_
                          refine lv_istore (lv' := [(11, .int 0), (16, .int z_33), (15, .int 1), (14, .int z_5), (12, .long z_4), (9, .long z_1), (0, .ref h0), (1, .int a0), (2, .long a1), (4, .int a2), (5, .int a3), (6, .int a4), (7, .int a5), (8, .int 1)]) hx hb dX1_first_204 hl (by decide) rfl (fun ls hl => ?_)
                          refine lv_goto (tgt := 249) hx hb dX1_first_206 (by decide) ?_
                          refine lv_iload hx hb dX1_first_249 (lv_at hl 3 rfl) ?_
                          refine lv_bipush (v := 10) hx hb dX1_first_251 (by decide) ?_
                          refine lv_iushr (v := jiushr z_5 10) hx hb dX1_first_253 rfl ?_
                          refine lv_i2l (v := (jiushr z_5 10).toInt64) hx hb dX1_first_254 rfl ?_
                          refine lv_bipush (v := 12) hx hb dX1_first_255 (by decide) ?_
                          refine lv_lshl (v := jlshl ((jiushr z_5 10).toInt64) 12) hx hb dX1_first_257 rfl ?_
                          refine lv_topl (fun z_36 ez_36 => ?_)
                          refine lv_lstore (lv' := [(9, .long z_36), (11, .int 0), (16, .int z_33), (15, .int 1), (14, .int z_5), (12, .long z_4), (0, .ref h0), (1, .int a0), (2, .long a1), (4, .int a2), (5, .int a3), (6, .int a4), (7, .int a5), (8, .int 1)]) hx hb dX1_first_258 hl (by decide) rfl (fun ls hl => ?_)
                          refine lv_iinc (v := -1) (lv' := [(11, .int ((-1))), (9, .long z_36), (16, .int z_33), (15, .int 1), (14, .int z_5), (12, .long z_4), (0, .ref h0), (1, .int a0), (2, .long a1), (4, .int a2), (5, .int a3), (6, .int a4), (7, .int a5), (8, .int 1)]) hx hb dX1_first_260 hl (k := 1) rfl (by decide) (by decide) rfl (fun ls hl => ?_)
                          refine lv_goto (tgt := 19) hx hb dX1_first_263 (by decide) ?_
                          refine lv_iload hx hb dX1_first_19 (lv_at hl 0 rfl) ?_
                          refine lv_if_lt (tgt := 266) hx hb dX1_first_21 (by decide) (fun c_21b => ?_) (fun c_21b => ?_)
                          · skip
                            refine lv_aload_n hx hb dX1_first_266 rfl (lv_at hl 6 rfl) ?_
                            refine lv_iload hx hb dX1_first_267 (lv_at hl 9 rfl) ?_
                            refine lv_bipush (v := 12) hx hb dX1_first_269 (by decide) ?_
                            refine lv_bipush (v := 13) hx hb dX1_first_271 (by decide) ?_
                            refine lv_bipush (v := 15) hx hb dX1_first_273 (by decide) ?_
                            refine cw_v (va_runV (As := [.int a2, .int 12, .int 13, .int 15]) (rest := []) ⟨hx, hb, hml, hown, hts⟩ (ctm_raise l dC dI h0 q_memory k_memory H.size v_atp v_vsAtp v_hgatp v_rights o_3.2.1 v_found o_3.2.2.1 o_3.2.2.2 m_memory a2 12 13 15) (cwV 4 hts gX1_first_X1_raise rfl rfl rfl (by decide +kernel) ⟨Nat.le_of_ble_eq_true rfl, Nat.le_of_ble_eq_true rfl⟩) ⟨fun a U g mk q => ⟨q.1, q.2.1, q.2.2.1, va_K.moved (u := U) (U := U.calling g mk a) (Vm.Alike.refl U.vm) q.2.2.2.1, q.2.2.2.2⟩, va_recv hK hP (ci := 1) (q0 := 0) rfl rfl, fun U hU hW => ⟨rfl, by rw [hU], by rw [hU]; exact hP, va_K.moved hW.alike hK, hD.weaken (fun _ _ _ _ => trivial)⟩⟩ rfl rfl hl.1 rfl (lv_room (Nat.le_of_ble_eq_true rfl)) dX1_first_275 ⟨Nat.zero_le _, Nat.zero_le _⟩) hA hD hP hS (fun o_37 H locs eo_37 hP hD hS => ?_)
                            have hP : va_P (dC, dI) vwCl (wm h0 q_memory k_memory v_atp v_vsAtp v_hgatp v_rights o_37 v_found o_3.2.2.1 o_3.2.2.2 m_memory) H := hP
                            have hD : va_D A (wm h0 q_memory k_memory v_atp v_vsAtp v_hgatp v_rights o_37 v_found o_3.2.2.1 o_3.2.2.2 m_memory) := hD
                            refine lv_lconst (v := 0) hx hb dX1_first_278 (by decide) ?_
                            exact W.lret (v := 0) hx hb hr (fun t ht hW => ⟨⟨_, (0, o_37, o_3.2.2.1, o_3.2.2.2), rfl, ⟨rfl, by subst eo_37; subst ez_36; subst ez_33; subst ez_5; subst ez_4; subst eo_3; subst ez_2; subst ez_1; first | (rw [fm_first1, if_pos c_1, if_pos c_90, if_neg c_114, if_neg c_122, if_neg c_164, if_pos c_179]; done) | (simp only [fm_first1, if_pos c_1, if_pos c_90, if_neg c_114, if_neg c_122, if_neg c_164, if_pos c_179]; done) | (rw [fm_first1, if_pos c_1, if_pos c_90, if_neg c_114, if_neg c_122, if_neg c_164, if_pos c_179] <;> rfl)⟩, by rw [ht]; exact hP, va_K.moved hW.alike hK, hD⟩, hS.F ht⟩) hS.2.2 dX1_first_279
                          · skip
                            exact absurd (by decide) c_21b
                        · skip
                          refine lv_iload hx hb dX1_first_182 (lv_at hl 2 rfl) ?_
                          refine lv_iload hx hb dX1_first_184 (lv_at hl 9 rfl) ?_
                          refine lv_iload hx hb dX1_first_186 (lv_at hl 12 rfl) ?_
                          refine cs_i (va_runS (As := [.int z_5, .int a2, .int a5]) (rest := []) ⟨hx, hb, hml, hown, hts⟩ (ctm_allows l H.size z_5 a2 a5) (va_cwS 3 hts gX1_first_X1_allows rfl rfl rfl (by decide +kernel) ⟨Nat.le_of_ble_eq_true rfl, Nat.le_of_ble_eq_true rfl⟩) ⟨fun a U g mk q => q, fun U hU hW => ⟨rfl, congrArg Array.size hU⟩⟩ rfl rfl hl.1 rfl (lv_room (Nat.le_of_ble_eq_true rfl)) dX1_first_188 ⟨Nat.zero_le _, Nat.zero_le _⟩) hA hP hS (fun H locs hP hS => ?_)
                          refine lv_if_eq (tgt := 203) hx hb dX1_first_191 (by decide) (fun c_191 => ?_) (fun c_191 => ?_)
                          · skip
                            refine lv_iconst (v := 0) hx hb dX1_first_203 (by decide) ?_
                            refine lv_istore (lv' := [(11, .int 0), (16, .int z_33), (15, .int 1), (14, .int z_5), (12, .long z_4), (9, .long z_1), (0, .ref h0), (1, .int a0), (2, .long a1), (4, .int a2), (5, .int a3), (6, .int a4), (7, .int a5), (8, .int 1)]) hx hb dX1_first_204 hl (by decide) rfl (fun ls hl => ?_)
                            refine lv_goto (tgt := 249) hx hb dX1_first_206 (by decide) ?_
                            refine lv_iload hx hb dX1_first_249 (lv_at hl 3 rfl) ?_
                            refine lv_bipush (v := 10) hx hb dX1_first_251 (by decide) ?_
                            refine lv_iushr (v := jiushr z_5 10) hx hb dX1_first_253 rfl ?_
                            refine lv_i2l (v := (jiushr z_5 10).toInt64) hx hb dX1_first_254 rfl ?_
                            refine lv_bipush (v := 12) hx hb dX1_first_255 (by decide) ?_
                            refine lv_lshl (v := jlshl ((jiushr z_5 10).toInt64) 12) hx hb dX1_first_257 rfl ?_
                            refine lv_topl (fun z_38 ez_38 => ?_)
                            refine lv_lstore (lv' := [(9, .long z_38), (11, .int 0), (16, .int z_33), (15, .int 1), (14, .int z_5), (12, .long z_4), (0, .ref h0), (1, .int a0), (2, .long a1), (4, .int a2), (5, .int a3), (6, .int a4), (7, .int a5), (8, .int 1)]) hx hb dX1_first_258 hl (by decide) rfl (fun ls hl => ?_)
                            refine lv_iinc (v := -1) (lv' := [(11, .int ((-1))), (9, .long z_38), (16, .int z_33), (15, .int 1), (14, .int z_5), (12, .long z_4), (0, .ref h0), (1, .int a0), (2, .long a1), (4, .int a2), (5, .int a3), (6, .int a4), (7, .int a5), (8, .int 1)]) hx hb dX1_first_260 hl (k := 1) rfl (by decide) (by decide) rfl (fun ls hl => ?_)
                            refine lv_goto (tgt := 19) hx hb dX1_first_263 (by decide) ?_
                            refine lv_iload hx hb dX1_first_19 (lv_at hl 0 rfl) ?_
                            refine lv_if_lt (tgt := 266) hx hb dX1_first_21 (by decide) (fun c_21b => ?_) (fun c_21b => ?_)
                            · skip
                              refine lv_aload_n hx hb dX1_first_266 rfl (lv_at hl 6 rfl) ?_
                              refine lv_iload hx hb dX1_first_267 (lv_at hl 9 rfl) ?_
                              refine lv_bipush (v := 12) hx hb dX1_first_269 (by decide) ?_
                              refine lv_bipush (v := 13) hx hb dX1_first_271 (by decide) ?_
                              refine lv_bipush (v := 15) hx hb dX1_first_273 (by decide) ?_
                              refine cw_v (va_runV (As := [.int a2, .int 12, .int 13, .int 15]) (rest := []) ⟨hx, hb, hml, hown, hts⟩ (ctm_raise l dC dI h0 q_memory k_memory H.size v_atp v_vsAtp v_hgatp v_rights o_3.2.1 v_found o_3.2.2.1 o_3.2.2.2 m_memory a2 12 13 15) (cwV 4 hts gX1_first_X1_raise rfl rfl rfl (by decide +kernel) ⟨Nat.le_of_ble_eq_true rfl, Nat.le_of_ble_eq_true rfl⟩) ⟨fun a U g mk q => ⟨q.1, q.2.1, q.2.2.1, va_K.moved (u := U) (U := U.calling g mk a) (Vm.Alike.refl U.vm) q.2.2.2.1, q.2.2.2.2⟩, va_recv hK hP (ci := 1) (q0 := 0) rfl rfl, fun U hU hW => ⟨rfl, by rw [hU], by rw [hU]; exact hP, va_K.moved hW.alike hK, hD.weaken (fun _ _ _ _ => trivial)⟩⟩ rfl rfl hl.1 rfl (lv_room (Nat.le_of_ble_eq_true rfl)) dX1_first_275 ⟨Nat.zero_le _, Nat.zero_le _⟩) hA hD hP hS (fun o_39 H locs eo_39 hP hD hS => ?_)
                              have hP : va_P (dC, dI) vwCl (wm h0 q_memory k_memory v_atp v_vsAtp v_hgatp v_rights o_39 v_found o_3.2.2.1 o_3.2.2.2 m_memory) H := hP
                              have hD : va_D A (wm h0 q_memory k_memory v_atp v_vsAtp v_hgatp v_rights o_39 v_found o_3.2.2.1 o_3.2.2.2 m_memory) := hD
                              refine lv_lconst (v := 0) hx hb dX1_first_278 (by decide) ?_
                              exact W.lret (v := 0) hx hb hr (fun t ht hW => ⟨⟨_, (0, o_39, o_3.2.2.1, o_3.2.2.2), rfl, ⟨rfl, by subst eo_39; subst ez_38; subst ez_33; subst ez_5; subst ez_4; subst eo_3; subst ez_2; subst ez_1; first | (rw [fm_first1, if_pos c_1, if_pos c_90, if_neg c_114, if_neg c_122, if_neg c_164, if_neg c_179, if_pos c_191]; done) | (simp only [fm_first1, if_pos c_1, if_pos c_90, if_neg c_114, if_neg c_122, if_neg c_164, if_neg c_179, if_pos c_191]; done) | (rw [fm_first1, if_pos c_1, if_pos c_90, if_neg c_114, if_neg c_122, if_neg c_164, if_neg c_179, if_pos c_191] <;> rfl)⟩, by rw [ht]; exact hP, va_K.moved hW.alike hK, hD⟩, hS.F ht⟩) hS.2.2 dX1_first_279
                            · skip
                              exact absurd (by decide) c_21b
                          · skip
                            refine lv_iload hx hb dX1_first_194 (lv_at hl 2 rfl) ?_
                            refine lv_iload hx hb dX1_first_196 (lv_at hl 1 rfl) ?_
                            refine lv_lload_n hx hb dX1_first_198 rfl (lv_at hl 8 rfl) ?_
                            refine cs_l (va_runS (As := [.int z_5, .int 1, .long a1]) (rest := []) ⟨hx, hb, hml, hown, hts⟩ (ctm_result l H.size z_5 1 a1) (va_cwS 3 hts gX1_first_X1_result rfl rfl rfl (by decide +kernel) ⟨Nat.le_of_ble_eq_true rfl, Nat.le_of_ble_eq_true rfl⟩) ⟨fun a U g mk q => q, fun U hU hW => ⟨rfl, congrArg Array.size hU⟩⟩ rfl rfl hl.1 rfl (lv_room (Nat.le_of_ble_eq_true rfl)) dX1_first_199 ⟨Nat.zero_le _, Nat.zero_le _⟩) hA hP hS (fun H locs hP hS => ?_)
                            exact W.lret (v := (fm_result z_5 1 a1)) hx hb hr (fun t ht hW => ⟨⟨_, ((fm_result z_5 1 a1), o_3.2.1, o_3.2.2.1, o_3.2.2.2), rfl, ⟨rfl, by subst ez_33; subst ez_5; subst ez_4; subst eo_3; subst ez_2; subst ez_1; first | (rw [fm_first1, if_pos c_1, if_pos c_90, if_neg c_114, if_neg c_122, if_neg c_164, if_neg c_179, if_neg c_191]; done) | (simp only [fm_first1, if_pos c_1, if_pos c_90, if_neg c_114, if_neg c_122, if_neg c_164, if_neg c_179, if_neg c_191]; done) | (rw [fm_first1, if_pos c_1, if_pos c_90, if_neg c_114, if_neg c_122, if_neg c_164, if_neg c_179, if_neg c_191] <;> rfl)⟩, by rw [ht]; exact hP, va_K.moved hW.alike hK, hD⟩, hS.F ht⟩) hS.2.2 dX1_first_202
                    · skip
                      refine lv_if_ne (tgt := 159) hx hb dX1_first_152 (by decide) (fun c_152 => ?_) (fun c_152 => ?_)
                      · skip
                        refine lv_iconst (v := 0) hx hb dX1_first_159 (by decide) ?_
                        exact W.eq (by rw [if_neg c_152] <;> rfl) (J160_152 _ _ hP hS)
                      · skip
                        refine lv_iconst (v := 1) hx hb dX1_first_155 (by decide) ?_
                        refine lv_goto (tgt := 160) hx hb dX1_first_156 (by decide) ?_
                        exact W.eq (by rw [if_pos c_152] <;> rfl) (J160_152 _ _ hP hS)
          · skip
            refine lv_lconst (v := 0) hx hb dX1_first_93 (by decide) ?_
            exact W.lret (v := 0) hx hb hr (fun t ht hW => ⟨⟨_, (0, o_3.2.1, o_3.2.2.1, o_3.2.2.2), rfl, ⟨rfl, by subst ez_4; subst eo_3; subst ez_2; subst ez_1; first | (rw [fm_first1, if_pos c_1, if_neg c_90]; done) | (simp only [fm_first1, if_pos c_1, if_neg c_90]; done) | (rw [fm_first1, if_pos c_1, if_neg c_90] <;> rfl)⟩, by rw [ht]; exact hP, va_K.moved hW.alike hK, hD⟩, hS.F ht⟩) hS.2.2 dX1_first_94
  · skip
    refine lv_lload_n hx hb dX1_first_4 rfl (lv_at hl 2 rfl) ?_
    exact W.lret (v := a1) hx hb hr (fun t ht hW => ⟨⟨_, (a1, v_code, v_wanted, v_ofEntry), rfl, ⟨rfl, by first | (rw [fm_first1, if_neg c_1]; done) | (simp only [fm_first1, if_neg c_1]; done) | (rw [fm_first1, if_neg c_1] <;> rfl)⟩, by rw [ht]; exact hP, va_K.moved hW.alike hK, hD⟩, hS.F ht⟩) hS.2.2 dX1_first_5
def fm_first0 (v_code : Int32) (v_wanted : Int64) (v_ofEntry : Int32) (m_memory : Nat → Int32) (a0 : Int32) (a1 : Int64) (a2 : Int32) (a3 : Int32) (a4 : Int32) (a5 : Int32) : Int64 × Int32 × Int64 × Int32 := if a0 < 0 then if ((fm_inMemory v_code a2 ((jlshl ((a0 &&& 4194303).toInt64) 12) + (4 * ((jlshr a1 22) &&& 1023)))).2) = 0 then if ((fm_stands (m_memory ((((fm_inMemory v_code a2 ((jlshl ((a0 &&& 4194303).toInt64) 12) + (4 * ((jlshr a1 22) &&& 1023)))).1) / 4).toInt32).toNatClampNeg))) = 0 then (0, (fm_raise a2 12 13 15), v_wanted, v_ofEntry) else if ((fm_isLeaf (m_memory ((((fm_inMemory v_code a2 ((jlshl ((a0 &&& 4194303).toInt64) 12) + (4 * ((jlshr a1 22) &&& 1023)))).1) / 4).toInt32).toNatClampNeg))) = 0 then if ((fm_isSet (m_memory ((((fm_inMemory v_code a2 ((jlshl ((a0 &&& 4194303).toInt64) 12) + (4 * ((jlshr a1 22) &&& 1023)))).1) / 4).toInt32).toNatClampNeg) 4)) = 0 then if ((fm_isSet (m_memory ((((fm_inMemory v_code a2 ((jlshl ((a0 &&& 4194303).toInt64) 12) + (4 * ((jlshr a1 22) &&& 1023)))).1) / 4).toInt32).toNatClampNeg) 6)) = 0 then if ((fm_isSet (m_memory ((((fm_inMemory v_code a2 ((jlshl ((a0 &&& 4194303).toInt64) 12) + (4 * ((jlshr a1 22) &&& 1023)))).1) / 4).toInt32).toNatClampNeg) 7)) = 0 then if ((fm_inMemory ((fm_inMemory v_code a2 ((jlshl ((a0 &&& 4194303).toInt64) 12) + (4 * ((jlshr a1 22) &&& 1023)))).2) a2 ((jlshl ((jiushr (m_memory ((((fm_inMemory v_code a2 ((jlshl ((a0 &&& 4194303).toInt64) 12) + (4 * ((jlshr a1 22) &&& 1023)))).1) / 4).toInt32).toNatClampNeg) 10).toInt64) 12) + (4 * ((jlshr a1 12) &&& 1023)))).2) = 0 then if ((fm_stands (m_memory ((((fm_inMemory ((fm_inMemory v_code a2 ((jlshl ((a0 &&& 4194303).toInt64) 12) + (4 * ((jlshr a1 22) &&& 1023)))).2) a2 ((jlshl ((jiushr (m_memory ((((fm_inMemory v_code a2 ((jlshl ((a0 &&& 4194303).toInt64) 12) + (4 * ((jlshr a1 22) &&& 1023)))).1) / 4).toInt32).toNatClampNeg) 10).toInt64) 12) + (4 * ((jlshr a1 12) &&& 1023)))).1) / 4).toInt32).toNatClampNeg))) = 0 then (0, (fm_raise a2 12 13 15), v_wanted, v_ofEntry) else if ((fm_isLeaf (m_memory ((((fm_inMemory ((fm_inMemory v_code a2 ((jlshl ((a0 &&& 4194303).toInt64) 12) + (4 * ((jlshr a1 22) &&& 1023)))).2) a2 ((jlshl ((jiushr (m_memory ((((fm_inMemory v_code a2 ((jlshl ((a0 &&& 4194303).toInt64) 12) + (4 * ((jlshr a1 22) &&& 1023)))).1) / 4).toInt32).toNatClampNeg) 10).toInt64) 12) + (4 * ((jlshr a1 12) &&& 1023)))).1) / 4).toInt32).toNatClampNeg))) = 0 then if ((fm_isSet (m_memory ((((fm_inMemory ((fm_inMemory v_code a2 ((jlshl ((a0 &&& 4194303).toInt64) 12) + (4 * ((jlshr a1 22) &&& 1023)))).2) a2 ((jlshl ((jiushr (m_memory ((((fm_inMemory v_code a2 ((jlshl ((a0 &&& 4194303).toInt64) 12) + (4 * ((jlshr a1 22) &&& 1023)))).1) / 4).toInt32).toNatClampNeg) 10).toInt64) 12) + (4 * ((jlshr a1 12) &&& 1023)))).1) / 4).toInt32).toNatClampNeg) 4)) = 0 then if ((fm_isSet (m_memory ((((fm_inMemory ((fm_inMemory v_code a2 ((jlshl ((a0 &&& 4194303).toInt64) 12) + (4 * ((jlshr a1 22) &&& 1023)))).2) a2 ((jlshl ((jiushr (m_memory ((((fm_inMemory v_code a2 ((jlshl ((a0 &&& 4194303).toInt64) 12) + (4 * ((jlshr a1 22) &&& 1023)))).1) / 4).toInt32).toNatClampNeg) 10).toInt64) 12) + (4 * ((jlshr a1 12) &&& 1023)))).1) / 4).toInt32).toNatClampNeg) 6)) = 0 then if ((fm_isSet (m_memory ((((fm_inMemory ((fm_inMemory v_code a2 ((jlshl ((a0 &&& 4194303).toInt64) 12) + (4 * ((jlshr a1 22) &&& 1023)))).2) a2 ((jlshl ((jiushr (m_memory ((((fm_inMemory v_code a2 ((jlshl ((a0 &&& 4194303).toInt64) 12) + (4 * ((jlshr a1 22) &&& 1023)))).1) / 4).toInt32).toNatClampNeg) 10).toInt64) 12) + (4 * ((jlshr a1 12) &&& 1023)))).1) / 4).toInt32).toNatClampNeg) 7)) = 0 then (0, (fm_raise a2 12 13 15), v_wanted, v_ofEntry) else (0, (fm_raise a2 12 13 15), v_wanted, v_ofEntry) else (0, (fm_raise a2 12 13 15), v_wanted, v_ofEntry) else (0, (fm_raise a2 12 13 15), v_wanted, v_ofEntry) else if ((fm_userFits (m_memory ((((fm_inMemory ((fm_inMemory v_code a2 ((jlshl ((a0 &&& 4194303).toInt64) 12) + (4 * ((jlshr a1 22) &&& 1023)))).2) a2 ((jlshl ((jiushr (m_memory ((((fm_inMemory v_code a2 ((jlshl ((a0 &&& 4194303).toInt64) 12) + (4 * ((jlshr a1 22) &&& 1023)))).1) / 4).toInt32).toNatClampNeg) 10).toInt64) 12) + (4 * ((jlshr a1 12) &&& 1023)))).1) / 4).toInt32).toNatClampNeg) a3 a2 a4)) = 0 then (0, (fm_raise a2 12 13 15), v_wanted, v_ofEntry) else if ((fm_allows (m_memory ((((fm_inMemory ((fm_inMemory v_code a2 ((jlshl ((a0 &&& 4194303).toInt64) 12) + (4 * ((jlshr a1 22) &&& 1023)))).2) a2 ((jlshl ((jiushr (m_memory ((((fm_inMemory v_code a2 ((jlshl ((a0 &&& 4194303).toInt64) 12) + (4 * ((jlshr a1 22) &&& 1023)))).1) / 4).toInt32).toNatClampNeg) 10).toInt64) 12) + (4 * ((jlshr a1 12) &&& 1023)))).1) / 4).toInt32).toNatClampNeg) a2 a5)) = 0 then (0, (fm_raise a2 12 13 15), v_wanted, v_ofEntry) else ((fm_result (m_memory ((((fm_inMemory ((fm_inMemory v_code a2 ((jlshl ((a0 &&& 4194303).toInt64) 12) + (4 * ((jlshr a1 22) &&& 1023)))).2) a2 ((jlshl ((jiushr (m_memory ((((fm_inMemory v_code a2 ((jlshl ((a0 &&& 4194303).toInt64) 12) + (4 * ((jlshr a1 22) &&& 1023)))).1) / 4).toInt32).toNatClampNeg) 10).toInt64) 12) + (4 * ((jlshr a1 12) &&& 1023)))).1) / 4).toInt32).toNatClampNeg) 0 a1), (fm_inMemory ((fm_inMemory v_code a2 ((jlshl ((a0 &&& 4194303).toInt64) 12) + (4 * ((jlshr a1 22) &&& 1023)))).2) a2 ((jlshl ((jiushr (m_memory ((((fm_inMemory v_code a2 ((jlshl ((a0 &&& 4194303).toInt64) 12) + (4 * ((jlshr a1 22) &&& 1023)))).1) / 4).toInt32).toNatClampNeg) 10).toInt64) 12) + (4 * ((jlshr a1 12) &&& 1023)))).2, v_wanted, v_ofEntry) else (0, (fm_inMemory ((fm_inMemory v_code a2 ((jlshl ((a0 &&& 4194303).toInt64) 12) + (4 * ((jlshr a1 22) &&& 1023)))).2) a2 ((jlshl ((jiushr (m_memory ((((fm_inMemory v_code a2 ((jlshl ((a0 &&& 4194303).toInt64) 12) + (4 * ((jlshr a1 22) &&& 1023)))).1) / 4).toInt32).toNatClampNeg) 10).toInt64) 12) + (4 * ((jlshr a1 12) &&& 1023)))).2, v_wanted, v_ofEntry) else (0, (fm_raise a2 12 13 15), v_wanted, v_ofEntry) else (0, (fm_raise a2 12 13 15), v_wanted, v_ofEntry) else (0, (fm_raise a2 12 13 15), v_wanted, v_ofEntry) else if ((if (((m_memory ((((fm_inMemory v_code a2 ((jlshl ((a0 &&& 4194303).toInt64) 12) + (4 * ((jlshr a1 22) &&& 1023)))).1) / 4).toInt32).toNatClampNeg) >>> (10 &&& 31)) &&& 1023) = 0 then 1 else 0 : Int32)) = 0 then (0, (fm_raise a2 12 13 15), v_wanted, v_ofEntry) else if ((fm_userFits (m_memory ((((fm_inMemory v_code a2 ((jlshl ((a0 &&& 4194303).toInt64) 12) + (4 * ((jlshr a1 22) &&& 1023)))).1) / 4).toInt32).toNatClampNeg) a3 a2 a4)) = 0 then (0, (fm_raise a2 12 13 15), v_wanted, v_ofEntry) else if ((fm_allows (m_memory ((((fm_inMemory v_code a2 ((jlshl ((a0 &&& 4194303).toInt64) 12) + (4 * ((jlshr a1 22) &&& 1023)))).1) / 4).toInt32).toNatClampNeg) a2 a5)) = 0 then (0, (fm_raise a2 12 13 15), v_wanted, v_ofEntry) else ((fm_result (m_memory ((((fm_inMemory v_code a2 ((jlshl ((a0 &&& 4194303).toInt64) 12) + (4 * ((jlshr a1 22) &&& 1023)))).1) / 4).toInt32).toNatClampNeg) 1 a1), (fm_inMemory v_code a2 ((jlshl ((a0 &&& 4194303).toInt64) 12) + (4 * ((jlshr a1 22) &&& 1023)))).2, v_wanted, v_ofEntry) else (0, (fm_inMemory v_code a2 ((jlshl ((a0 &&& 4194303).toInt64) 12) + (4 * ((jlshr a1 22) &&& 1023)))).2, v_wanted, v_ofEntry) else (a1, v_code, v_wanted, v_ofEntry)
set_option maxHeartbeats 4000000 in
set_option maxRecDepth 100000 in
theorem ctm_first0 (l : Launch) (dC : Nat → ClassId) (dI : Nat → Nat → Nat) (h0 : Nat) (q_memory : Nat) (k_memory : ClassId) (sz : Nat) (v_atp : Int32) (v_vsAtp : Int32) (v_hgatp : Int32) (v_rights : Int32) (v_code : Int32) (v_found : Int64) (v_wanted : Int64) (v_ofEntry : Int32) (m_memory : Nat → Int32) (a0 : Int32) (a1 : Int64) (a2 : Int32) (a3 : Int32) (a4 : Int32) (a5 : Int32) : MWl l yX1_first wsX1_first ({ frames := 3, cells := 0, slots := 0, locals := 80 }) (dC, dI) vwCl [(k_memory, .int)] [.ref h0, .int a0, .long a1, .int a2, .int a3, .int a4, .int a5, .int 0] sz (wm h0 q_memory k_memory v_atp v_vsAtp v_hgatp v_rights v_code v_found v_wanted v_ofEntry m_memory) (fun u : Int64 × Int32 × Int64 × Int32 => (wm h0 q_memory k_memory v_atp v_vsAtp v_hgatp v_rights u.2.1 v_found u.2.2.1 u.2.2.2 m_memory)) (fun u : Int64 × Int32 × Int64 × Int32 => u.1) (fm_first0 v_code v_wanted v_ofEntry m_memory a0 a1 a2 a3 a4 a5) := by
  refine Met.ofW (cc := cX1_first) (maxL := 17) (ret := (some .long)) (by decide) rfl ?_
  intro p e s m args below meth c s₁ B hml hv
  obtain ⟨rfl, hsz, hP, hK, hD0⟩ := hv
  have hx := B.exec
  have hb := B.bytes
  have hr := B.returns
  have hts := atoms_spec (ws := wsX1_first) B.pre
  have hown : s.vm.findClass RX1 = some m.cls := findClass_of_methodNamed B.named
  have hlocks := B.notSynchronized
  subst hsz
  have hwX : ∀ w ∈ u_ws RX1 TX1 9, w ∈ wsX1_first := by decide +kernel
  have hD := hD0.self (sz := s.heap.size)
  generalize hAe : va_A (wm h0 q_memory k_memory v_atp v_vsAtp v_hgatp v_rights v_code v_found v_wanted v_ofEntry m_memory) s.heap.size = A at hD ⊢
  have hA : ∀ q : Nat, s.heap.size ≤ q → A q := fun q h => by rw [← hAe]; exact Or.inr h
  have hS : va_S A s.heap s.heap [] := va_S.rf
  have hP : va_P (dC, dI) vwCl (wm h0 q_memory k_memory v_atp v_vsAtp v_hgatp v_rights v_code v_found v_wanted v_ofEntry m_memory) s.heap := hP
  have hl := lv_entry ([.ref h0, .int a0, .long a1, .int a2, .int a3, .int a4, .int a5, .int 0]) (n := 17) (Nat.le_of_ble_eq_true rfl)
  rw [lg_entry_eq]
  generalize (lg_sl ([.ref h0, .int a0, .long a1, .int a2, .int a3, .int a4, .int a5, .int 0]) ++ List.replicate (17 - (lg_sl ([.ref h0, .int a0, .long a1, .int a2, .int a3, .int a4, .int a5, .int 0])).length) Slot.unset).toArray = ls at hl ⊢
  have hl : lv_has ls 17 [(0, .ref h0), (1, .int a0), (2, .long a1), (4, .int a2), (5, .int a3), (6, .int a4), (7, .int a5), (8, .int 0)] := hl
  refine lv_iload_n hx hb dX1_first_0 rfl (lv_at hl 1 rfl) ?_
  refine lv_if_lt (tgt := 6) hx hb dX1_first_1 (by decide) (fun c_1 => ?_) (fun c_1 => ?_)
  · skip
    refine lv_iload_n hx hb dX1_first_6 rfl (lv_at hl 1 rfl) ?_
    refine lv_ldc hx hb hown (hts (.constant RX1 81 4194303) (by decide +kernel)) dX1_first_7 ?_
    refine lv_iand hx hb dX1_first_9 ?_
    refine lv_i2l (v := (a0 &&& 4194303).toInt64) hx hb dX1_first_10 rfl ?_
    refine lv_bipush (v := 12) hx hb dX1_first_11 (by decide) ?_
    refine lv_lshl (v := jlshl ((a0 &&& 4194303).toInt64) 12) hx hb dX1_first_13 rfl ?_
    refine lv_topl (fun z_1 ez_1 => ?_)
    refine lv_lstore (lv' := [(9, .long z_1), (0, .ref h0), (1, .int a0), (2, .long a1), (4, .int a2), (5, .int a3), (6, .int a4), (7, .int a5), (8, .int 0)]) hx hb dX1_first_14 hl (by decide) rfl (fun ls hl => ?_)
    refine lv_iconst (v := 1) hx hb dX1_first_16 (by decide) ?_
    refine lv_istore (lv' := [(11, .int 1), (9, .long z_1), (0, .ref h0), (1, .int a0), (2, .long a1), (4, .int a2), (5, .int a3), (6, .int a4), (7, .int a5), (8, .int 0)]) hx hb dX1_first_17 hl (by decide) rfl (fun ls hl => ?_)
    refine lv_iload hx hb dX1_first_19 (lv_at hl 0 rfl) ?_
    refine lv_if_lt (tgt := 266) hx hb dX1_first_21 (by decide) (fun c_21 => ?_) (fun c_21 => ?_)
    · skip
      exact absurd c_21 (by decide)
    · skip
      refine lv_lload hx hb dX1_first_24 (lv_at hl 1 rfl) ?_
      refine lv_ldc2 hx hb hown (hts (.constantLong RX1 53 4) (by decide +kernel)) dX1_first_26 ?_
      refine lv_iload hx hb dX1_first_29 (lv_at hl 0 rfl) ?_
      refine lv_iconst (v := 1) hx hb dX1_first_31 (by decide) ?_
      refine lv_icmp_ne (tgt := 46) hx hb dX1_first_32 (by decide) (fun c_32 => ?_) (fun c_32 => ?_)
      · skip
        exact absurd (by decide) c_32
      · skip
        refine lv_lload_n hx hb dX1_first_35 rfl (lv_at hl 4 rfl) ?_
        refine lv_bipush (v := 22) hx hb dX1_first_36 (by decide) ?_
        refine lv_lshr (v := jlshr a1 22) hx hb dX1_first_38 rfl ?_
        refine lv_ldc2 hx hb hown (hts (.constantLong RX1 44 1023) (by decide +kernel)) dX1_first_39 ?_
        refine lv_land hx hb dX1_first_42 ?_
        refine lv_goto (tgt := 54) hx hb dX1_first_43 (by decide) ?_
        refine lv_lmul hx hb dX1_first_54 ?_
        refine lv_ladd hx hb dX1_first_55 ?_
        refine lv_topl (fun z_2 ez_2 => ?_)
        refine lv_lstore (lv' := [(12, .long z_2), (11, .int 1), (9, .long z_1), (0, .ref h0), (1, .int a0), (2, .long a1), (4, .int a2), (5, .int a3), (6, .int a4), (7, .int a5), (8, .int 0)]) hx hb dX1_first_56 hl (by decide) rfl (fun ls hl => ?_)
        refine lv_iload hx hb dX1_first_58 (lv_at hl 10 rfl) ?_
        refine lv_if_eq (tgt := 76) hx hb dX1_first_60 (by decide) (fun c_60 => ?_) (fun c_60 => ?_)
        · skip
          refine lv_aload_n hx hb dX1_first_76 rfl (lv_at hl 3 rfl) ?_
          refine lv_iload hx hb dX1_first_77 (lv_at hl 6 rfl) ?_
          refine lv_lload hx hb dX1_first_79 (lv_at hl 0 rfl) ?_
          refine cw_l (va_runV (As := [.int a2, .long z_2]) (rest := []) ⟨hx, hb, hml, hown, hts⟩ (ctm_inMemory l dC dI h0 q_memory k_memory s.heap.size v_atp v_vsAtp v_hgatp v_rights v_code v_found v_wanted v_ofEntry m_memory a2 z_2) (cwV 2 hts gX1_first_X1_inMemory rfl rfl rfl (by decide +kernel) ⟨Nat.le_of_ble_eq_true rfl, Nat.le_of_ble_eq_true rfl⟩) ⟨fun a U g mk q => ⟨q.1, q.2.1, q.2.2.1, va_K.moved (u := U) (U := U.calling g mk a) (Vm.Alike.refl U.vm) q.2.2.2.1, q.2.2.2.2⟩, va_recv hK hP (ci := 1) (q0 := 0) rfl rfl, fun U hU hW => ⟨rfl, by rw [hU], by rw [hU]; exact hP, va_K.moved hW.alike hK, hD.weaken (fun _ _ _ _ => trivial)⟩⟩ rfl rfl hl.1 rfl (lv_room (Nat.le_of_ble_eq_true rfl)) dX1_first_81 ⟨Nat.zero_le _, Nat.zero_le _⟩) hA hD hP hS (fun o_3 H locs eo_3 hP hD hS => ?_)
          have hP : va_P (dC, dI) vwCl (wm h0 q_memory k_memory v_atp v_vsAtp v_hgatp v_rights o_3.2 v_found v_wanted v_ofEntry m_memory) H := hP
          have hD : va_D A (wm h0 q_memory k_memory v_atp v_vsAtp v_hgatp v_rights o_3.2 v_found v_wanted v_ofEntry m_memory) := hD
          refine lv_topl (fun z_4 ez_4 => ?_)
          refine lv_lstore (lv' := [(12, .long z_4), (11, .int 1), (9, .long z_1), (0, .ref h0), (1, .int a0), (2, .long a1), (4, .int a2), (5, .int a3), (6, .int a4), (7, .int a5), (8, .int 0)]) hx hb dX1_first_84 hl (by decide) rfl (fun ls hl => ?_)
          refine lv_aload_n hx hb dX1_first_86 rfl (lv_at hl 3 rfl) ?_
          refine va_get (D := (dC, dI)) (ci := 1) (v := .int o_3.2) (C := RX1) (T := TX1) (N := 9) hx hb hts hwX hown hK hP 0 rfl rfl 5 (by decide) (hts (.fieldLink RX1 14 "StageWalkerModel" "code" "I") (by decide +kernel)) (fun _ h9 => h9) rfl dX1_first_87 ?_
          refine lv_if_eq (tgt := 95) hx hb dX1_first_90 (by decide) (fun c_90 => ?_) (fun c_90 => ?_)
          · skip
            refine lv_aload_n hx hb dX1_first_95 rfl (lv_at hl 3 rfl) ?_
            refine va_get (D := (dC, dI)) (ci := 1) (v := .ref q_memory) (C := RX1) (T := TX1) (N := 9) hx hb hts hwX hown hK hP 0 rfl rfl 0 (by decide) (hts (.fieldLink RX1 8 "StageWalkerModel" "memory" "[I") (by decide +kernel)) (fun _ h9 => h9) rfl dX1_first_96 ?_
            refine lv_lload hx hb dX1_first_99 (lv_at hl 0 rfl) ?_
            refine lv_ldc2 hx hb hown (hts (.constantLong RX1 53 4) (by decide +kernel)) dX1_first_101 ?_
            refine lv_ldiv hx hb dX1_first_104 (by decide) ?_
            refine lv_l2i (v := (z_4 / 4).toInt32) hx hb dX1_first_105 rfl ?_
            refine va_iald (cA := k_memory) (f := m_memory) hx hb hK hP 1 0 rfl rfl (i := (z_4 / 4).toInt32) (vf_1 ez_1 ez_2 eo_3 ez_4 c_90) dX1_first_106 ?_
            refine lv_topi (fun z_5 ez_5 => ?_)
            refine lv_istore (lv' := [(14, .int z_5), (12, .long z_4), (11, .int 1), (9, .long z_1), (0, .ref h0), (1, .int a0), (2, .long a1), (4, .int a2), (5, .int a3), (6, .int a4), (7, .int a5), (8, .int 0)]) hx hb dX1_first_107 hl (by decide) rfl (fun ls hl => ?_)
            refine lv_iload hx hb dX1_first_109 (lv_at hl 0 rfl) ?_
            refine cs_i (va_runS (As := [.int z_5]) (rest := []) ⟨hx, hb, hml, hown, hts⟩ (ctm_stands l H.size z_5) (va_cwS 1 hts gX1_first_X1_stands rfl rfl rfl (by decide +kernel) ⟨Nat.le_of_ble_eq_true rfl, Nat.le_of_ble_eq_true rfl⟩) ⟨fun a U g mk q => q, fun U hU hW => ⟨rfl, congrArg Array.size hU⟩⟩ rfl rfl hl.1 rfl (lv_room (Nat.le_of_ble_eq_true rfl)) dX1_first_111 ⟨Nat.zero_le _, Nat.zero_le _⟩) hA hP hS (fun H locs hP hS => ?_)
            refine lv_if_eq (tgt := 209) hx hb dX1_first_114 (by decide) (fun c_114 => ?_) (fun c_114 => ?_)
            · skip
              refine lv_iload hx hb dX1_first_209 (lv_at hl 0 rfl) ?_
              refine cs_i (va_runS (As := [.int z_5]) (rest := []) ⟨hx, hb, hml, hown, hts⟩ (ctm_stands l H.size z_5) (va_cwS 1 hts gX1_first_X1_stands rfl rfl rfl (by decide +kernel) ⟨Nat.le_of_ble_eq_true rfl, Nat.le_of_ble_eq_true rfl⟩) ⟨fun a U g mk q => q, fun U hU hW => ⟨rfl, congrArg Array.size hU⟩⟩ rfl rfl hl.1 rfl (lv_room (Nat.le_of_ble_eq_true rfl)) dX1_first_211 ⟨Nat.zero_le _, Nat.zero_le _⟩) hA hP hS (fun H locs hP hS => ?_)
              refine lv_if_eq (tgt := 246) hx hb dX1_first_214 (by decide) (fun c_214 => ?_) (fun c_214 => ?_)
              · skip
                refine lv_iconst (v := 0) hx hb dX1_first_246 (by decide) ?_
                refine lv_istore (lv' := [(11, .int 0), (14, .int z_5), (12, .long z_4), (9, .long z_1), (0, .ref h0), (1, .int a0), (2, .long a1), (4, .int a2), (5, .int a3), (6, .int a4), (7, .int a5), (8, .int 0)]) hx hb dX1_first_247 hl (by decide) rfl (fun ls hl => ?_)
                refine lv_iload hx hb dX1_first_249 (lv_at hl 1 rfl) ?_
                refine lv_bipush (v := 10) hx hb dX1_first_251 (by decide) ?_
                refine lv_iushr (v := jiushr z_5 10) hx hb dX1_first_253 rfl ?_
                refine lv_i2l (v := (jiushr z_5 10).toInt64) hx hb dX1_first_254 rfl ?_
                refine lv_bipush (v := 12) hx hb dX1_first_255 (by decide) ?_
                refine lv_lshl (v := jlshl ((jiushr z_5 10).toInt64) 12) hx hb dX1_first_257 rfl ?_
                refine lv_topl (fun z_6 ez_6 => ?_)
                refine lv_lstore (lv' := [(9, .long z_6), (11, .int 0), (14, .int z_5), (12, .long z_4), (0, .ref h0), (1, .int a0), (2, .long a1), (4, .int a2), (5, .int a3), (6, .int a4), (7, .int a5), (8, .int 0)]) hx hb dX1_first_258 hl (by decide) rfl (fun ls hl => ?_)
                refine lv_iinc (v := -1) (lv' := [(11, .int ((-1))), (9, .long z_6), (14, .int z_5), (12, .long z_4), (0, .ref h0), (1, .int a0), (2, .long a1), (4, .int a2), (5, .int a3), (6, .int a4), (7, .int a5), (8, .int 0)]) hx hb dX1_first_260 hl (k := 1) rfl (by decide) (by decide) rfl (fun ls hl => ?_)
                refine lv_goto (tgt := 19) hx hb dX1_first_263 (by decide) ?_
                refine lv_iload hx hb dX1_first_19 (lv_at hl 0 rfl) ?_
                refine lv_if_lt (tgt := 266) hx hb dX1_first_21 (by decide) (fun c_21b => ?_) (fun c_21b => ?_)
                · skip
                  refine lv_aload_n hx hb dX1_first_266 rfl (lv_at hl 4 rfl) ?_
                  refine lv_iload hx hb dX1_first_267 (lv_at hl 7 rfl) ?_
                  refine lv_bipush (v := 12) hx hb dX1_first_269 (by decide) ?_
                  refine lv_bipush (v := 13) hx hb dX1_first_271 (by decide) ?_
                  refine lv_bipush (v := 15) hx hb dX1_first_273 (by decide) ?_
                  refine cw_v (va_runV (As := [.int a2, .int 12, .int 13, .int 15]) (rest := []) ⟨hx, hb, hml, hown, hts⟩ (ctm_raise l dC dI h0 q_memory k_memory H.size v_atp v_vsAtp v_hgatp v_rights o_3.2 v_found v_wanted v_ofEntry m_memory a2 12 13 15) (cwV 4 hts gX1_first_X1_raise rfl rfl rfl (by decide +kernel) ⟨Nat.le_of_ble_eq_true rfl, Nat.le_of_ble_eq_true rfl⟩) ⟨fun a U g mk q => ⟨q.1, q.2.1, q.2.2.1, va_K.moved (u := U) (U := U.calling g mk a) (Vm.Alike.refl U.vm) q.2.2.2.1, q.2.2.2.2⟩, va_recv hK hP (ci := 1) (q0 := 0) rfl rfl, fun U hU hW => ⟨rfl, by rw [hU], by rw [hU]; exact hP, va_K.moved hW.alike hK, hD.weaken (fun _ _ _ _ => trivial)⟩⟩ rfl rfl hl.1 rfl (lv_room (Nat.le_of_ble_eq_true rfl)) dX1_first_275 ⟨Nat.zero_le _, Nat.zero_le _⟩) hA hD hP hS (fun o_7 H locs eo_7 hP hD hS => ?_)
                  have hP : va_P (dC, dI) vwCl (wm h0 q_memory k_memory v_atp v_vsAtp v_hgatp v_rights o_7 v_found v_wanted v_ofEntry m_memory) H := hP
                  have hD : va_D A (wm h0 q_memory k_memory v_atp v_vsAtp v_hgatp v_rights o_7 v_found v_wanted v_ofEntry m_memory) := hD
                  refine lv_lconst (v := 0) hx hb dX1_first_278 (by decide) ?_
                  exact W.lret (v := 0) hx hb hr (fun t ht hW => ⟨⟨_, (0, o_7, v_wanted, v_ofEntry), rfl, ⟨rfl, by subst eo_7; subst ez_6; subst ez_5; subst ez_4; subst eo_3; subst ez_2; subst ez_1; first | (rw [fm_first0, if_pos c_1, if_pos c_90, if_pos c_114]; done) | (simp only [fm_first0, if_pos c_1, if_pos c_90, if_pos c_114]; done) | (rw [fm_first0, if_pos c_1, if_pos c_90, if_pos c_114] <;> rfl)⟩, by rw [ht]; exact hP, va_K.moved hW.alike hK, hD⟩, hS.F ht⟩) hS.2.2 dX1_first_279
                · skip
                  exact absurd (by decide) c_21b
              · skip
                exact absurd c_114 c_214
            · skip
              refine lv_iload hx hb dX1_first_117 (lv_at hl 0 rfl) ?_
              refine cs_i (va_runS (As := [.int z_5]) (rest := []) ⟨hx, hb, hml, hown, hts⟩ (ctm_isLeaf l H.size z_5) (va_cwS 1 hts gX1_first_X1_isLeaf rfl rfl rfl (by decide +kernel) ⟨Nat.le_of_ble_eq_true rfl, Nat.le_of_ble_eq_true rfl⟩) ⟨fun a U g mk q => q, fun U hU hW => ⟨rfl, congrArg Array.size hU⟩⟩ rfl rfl hl.1 rfl (lv_room (Nat.le_of_ble_eq_true rfl)) dX1_first_119 ⟨Nat.zero_le _, Nat.zero_le _⟩) hA hP hS (fun H locs hP hS => ?_)
              refine lv_if_eq (tgt := 209) hx hb dX1_first_122 (by decide) (fun c_122 => ?_) (fun c_122 => ?_)
              · skip
                refine lv_iload hx hb dX1_first_209 (lv_at hl 0 rfl) ?_
                refine cs_i (va_runS (As := [.int z_5]) (rest := []) ⟨hx, hb, hml, hown, hts⟩ (ctm_stands l H.size z_5) (va_cwS 1 hts gX1_first_X1_stands rfl rfl rfl (by decide +kernel) ⟨Nat.le_of_ble_eq_true rfl, Nat.le_of_ble_eq_true rfl⟩) ⟨fun a U g mk q => q, fun U hU hW => ⟨rfl, congrArg Array.size hU⟩⟩ rfl rfl hl.1 rfl (lv_room (Nat.le_of_ble_eq_true rfl)) dX1_first_211 ⟨Nat.zero_le _, Nat.zero_le _⟩) hA hP hS (fun H locs hP hS => ?_)
                refine lv_if_eq (tgt := 246) hx hb dX1_first_214 (by decide) (fun c_214 => ?_) (fun c_214 => ?_)
                · skip
                  exact absurd c_214 c_114
                · skip
                  refine lv_iload hx hb dX1_first_217 (lv_at hl 0 rfl) ?_
                  refine lv_iconst (v := 4) hx hb dX1_first_219 (by decide) ?_
                  refine cs_i (va_runS (As := [.int z_5, .int 4]) (rest := []) ⟨hx, hb, hml, hown, hts⟩ (ctm_isSet l H.size z_5 4) (va_cwS 2 hts gX1_first_X1_isSet rfl rfl rfl (by decide +kernel) ⟨Nat.le_of_ble_eq_true rfl, Nat.le_of_ble_eq_true rfl⟩) ⟨fun a U g mk q => q, fun U hU hW => ⟨rfl, congrArg Array.size hU⟩⟩ rfl rfl hl.1 rfl (lv_room (Nat.le_of_ble_eq_true rfl)) dX1_first_220 ⟨Nat.zero_le _, Nat.zero_le _⟩) hA hP hS (fun H locs hP hS => ?_)
                  refine lv_if_ne (tgt := 246) hx hb dX1_first_223 (by decide) (fun c_223 => ?_) (fun c_223 => ?_)
                  · skip
                    refine lv_iconst (v := 0) hx hb dX1_first_246 (by decide) ?_
                    refine lv_istore (lv' := [(11, .int 0), (14, .int z_5), (12, .long z_4), (9, .long z_1), (0, .ref h0), (1, .int a0), (2, .long a1), (4, .int a2), (5, .int a3), (6, .int a4), (7, .int a5), (8, .int 0)]) hx hb dX1_first_247 hl (by decide) rfl (fun ls hl => ?_)
                    refine lv_iload hx hb dX1_first_249 (lv_at hl 1 rfl) ?_
                    refine lv_bipush (v := 10) hx hb dX1_first_251 (by decide) ?_
                    refine lv_iushr (v := jiushr z_5 10) hx hb dX1_first_253 rfl ?_
                    refine lv_i2l (v := (jiushr z_5 10).toInt64) hx hb dX1_first_254 rfl ?_
                    refine lv_bipush (v := 12) hx hb dX1_first_255 (by decide) ?_
                    refine lv_lshl (v := jlshl ((jiushr z_5 10).toInt64) 12) hx hb dX1_first_257 rfl ?_
                    refine lv_topl (fun z_8 ez_8 => ?_)
                    refine lv_lstore (lv' := [(9, .long z_8), (11, .int 0), (14, .int z_5), (12, .long z_4), (0, .ref h0), (1, .int a0), (2, .long a1), (4, .int a2), (5, .int a3), (6, .int a4), (7, .int a5), (8, .int 0)]) hx hb dX1_first_258 hl (by decide) rfl (fun ls hl => ?_)
                    refine lv_iinc (v := -1) (lv' := [(11, .int ((-1))), (9, .long z_8), (14, .int z_5), (12, .long z_4), (0, .ref h0), (1, .int a0), (2, .long a1), (4, .int a2), (5, .int a3), (6, .int a4), (7, .int a5), (8, .int 0)]) hx hb dX1_first_260 hl (k := 1) rfl (by decide) (by decide) rfl (fun ls hl => ?_)
                    refine lv_goto (tgt := 19) hx hb dX1_first_263 (by decide) ?_
                    refine lv_iload hx hb dX1_first_19 (lv_at hl 0 rfl) ?_
                    refine lv_if_lt (tgt := 266) hx hb dX1_first_21 (by decide) (fun c_21b => ?_) (fun c_21b => ?_)
                    · skip
                      refine lv_aload_n hx hb dX1_first_266 rfl (lv_at hl 4 rfl) ?_
                      refine lv_iload hx hb dX1_first_267 (lv_at hl 7 rfl) ?_
                      refine lv_bipush (v := 12) hx hb dX1_first_269 (by decide) ?_
                      refine lv_bipush (v := 13) hx hb dX1_first_271 (by decide) ?_
                      refine lv_bipush (v := 15) hx hb dX1_first_273 (by decide) ?_
                      refine cw_v (va_runV (As := [.int a2, .int 12, .int 13, .int 15]) (rest := []) ⟨hx, hb, hml, hown, hts⟩ (ctm_raise l dC dI h0 q_memory k_memory H.size v_atp v_vsAtp v_hgatp v_rights o_3.2 v_found v_wanted v_ofEntry m_memory a2 12 13 15) (cwV 4 hts gX1_first_X1_raise rfl rfl rfl (by decide +kernel) ⟨Nat.le_of_ble_eq_true rfl, Nat.le_of_ble_eq_true rfl⟩) ⟨fun a U g mk q => ⟨q.1, q.2.1, q.2.2.1, va_K.moved (u := U) (U := U.calling g mk a) (Vm.Alike.refl U.vm) q.2.2.2.1, q.2.2.2.2⟩, va_recv hK hP (ci := 1) (q0 := 0) rfl rfl, fun U hU hW => ⟨rfl, by rw [hU], by rw [hU]; exact hP, va_K.moved hW.alike hK, hD.weaken (fun _ _ _ _ => trivial)⟩⟩ rfl rfl hl.1 rfl (lv_room (Nat.le_of_ble_eq_true rfl)) dX1_first_275 ⟨Nat.zero_le _, Nat.zero_le _⟩) hA hD hP hS (fun o_9 H locs eo_9 hP hD hS => ?_)
                      have hP : va_P (dC, dI) vwCl (wm h0 q_memory k_memory v_atp v_vsAtp v_hgatp v_rights o_9 v_found v_wanted v_ofEntry m_memory) H := hP
                      have hD : va_D A (wm h0 q_memory k_memory v_atp v_vsAtp v_hgatp v_rights o_9 v_found v_wanted v_ofEntry m_memory) := hD
                      refine lv_lconst (v := 0) hx hb dX1_first_278 (by decide) ?_
                      exact W.lret (v := 0) hx hb hr (fun t ht hW => ⟨⟨_, (0, o_9, v_wanted, v_ofEntry), rfl, ⟨rfl, by subst eo_9; subst ez_8; subst ez_5; subst ez_4; subst eo_3; subst ez_2; subst ez_1; first | (rw [fm_first0, if_pos c_1, if_pos c_90, if_neg c_114, if_pos c_122, if_neg c_223]; done) | (simp only [fm_first0, if_pos c_1, if_pos c_90, if_neg c_114, if_pos c_122, if_neg c_223]; done) | (rw [fm_first0, if_pos c_1, if_pos c_90, if_neg c_114, if_pos c_122, if_neg c_223] <;> rfl)⟩, by rw [ht]; exact hP, va_K.moved hW.alike hK, hD⟩, hS.F ht⟩) hS.2.2 dX1_first_279
                    · skip
                      exact absurd (by decide) c_21b
                  · skip
                    refine lv_iload hx hb dX1_first_226 (lv_at hl 0 rfl) ?_
                    refine lv_bipush (v := 6) hx hb dX1_first_228 (by decide) ?_
                    refine cs_i (va_runS (As := [.int z_5, .int 6]) (rest := []) ⟨hx, hb, hml, hown, hts⟩ (ctm_isSet l H.size z_5 6) (va_cwS 2 hts gX1_first_X1_isSet rfl rfl rfl (by decide +kernel) ⟨Nat.le_of_ble_eq_true rfl, Nat.le_of_ble_eq_true rfl⟩) ⟨fun a U g mk q => q, fun U hU hW => ⟨rfl, congrArg Array.size hU⟩⟩ rfl rfl hl.1 rfl (lv_room (Nat.le_of_ble_eq_true rfl)) dX1_first_230 ⟨Nat.zero_le _, Nat.zero_le _⟩) hA hP hS (fun H locs hP hS => ?_)
                    refine lv_if_ne (tgt := 246) hx hb dX1_first_233 (by decide) (fun c_233 => ?_) (fun c_233 => ?_)
                    · skip
                      refine lv_iconst (v := 0) hx hb dX1_first_246 (by decide) ?_
                      refine lv_istore (lv' := [(11, .int 0), (14, .int z_5), (12, .long z_4), (9, .long z_1), (0, .ref h0), (1, .int a0), (2, .long a1), (4, .int a2), (5, .int a3), (6, .int a4), (7, .int a5), (8, .int 0)]) hx hb dX1_first_247 hl (by decide) rfl (fun ls hl => ?_)
                      refine lv_iload hx hb dX1_first_249 (lv_at hl 1 rfl) ?_
                      refine lv_bipush (v := 10) hx hb dX1_first_251 (by decide) ?_
                      refine lv_iushr (v := jiushr z_5 10) hx hb dX1_first_253 rfl ?_
                      refine lv_i2l (v := (jiushr z_5 10).toInt64) hx hb dX1_first_254 rfl ?_
                      refine lv_bipush (v := 12) hx hb dX1_first_255 (by decide) ?_
                      refine lv_lshl (v := jlshl ((jiushr z_5 10).toInt64) 12) hx hb dX1_first_257 rfl ?_
                      refine lv_topl (fun z_10 ez_10 => ?_)
                      refine lv_lstore (lv' := [(9, .long z_10), (11, .int 0), (14, .int z_5), (12, .long z_4), (0, .ref h0), (1, .int a0), (2, .long a1), (4, .int a2), (5, .int a3), (6, .int a4), (7, .int a5), (8, .int 0)]) hx hb dX1_first_258 hl (by decide) rfl (fun ls hl => ?_)
                      refine lv_iinc (v := -1) (lv' := [(11, .int ((-1))), (9, .long z_10), (14, .int z_5), (12, .long z_4), (0, .ref h0), (1, .int a0), (2, .long a1), (4, .int a2), (5, .int a3), (6, .int a4), (7, .int a5), (8, .int 0)]) hx hb dX1_first_260 hl (k := 1) rfl (by decide) (by decide) rfl (fun ls hl => ?_)
                      refine lv_goto (tgt := 19) hx hb dX1_first_263 (by decide) ?_
                      refine lv_iload hx hb dX1_first_19 (lv_at hl 0 rfl) ?_
                      refine lv_if_lt (tgt := 266) hx hb dX1_first_21 (by decide) (fun c_21b => ?_) (fun c_21b => ?_)
                      · skip
                        refine lv_aload_n hx hb dX1_first_266 rfl (lv_at hl 4 rfl) ?_
                        refine lv_iload hx hb dX1_first_267 (lv_at hl 7 rfl) ?_
                        refine lv_bipush (v := 12) hx hb dX1_first_269 (by decide) ?_
                        refine lv_bipush (v := 13) hx hb dX1_first_271 (by decide) ?_
                        refine lv_bipush (v := 15) hx hb dX1_first_273 (by decide) ?_
                        refine cw_v (va_runV (As := [.int a2, .int 12, .int 13, .int 15]) (rest := []) ⟨hx, hb, hml, hown, hts⟩ (ctm_raise l dC dI h0 q_memory k_memory H.size v_atp v_vsAtp v_hgatp v_rights o_3.2 v_found v_wanted v_ofEntry m_memory a2 12 13 15) (cwV 4 hts gX1_first_X1_raise rfl rfl rfl (by decide +kernel) ⟨Nat.le_of_ble_eq_true rfl, Nat.le_of_ble_eq_true rfl⟩) ⟨fun a U g mk q => ⟨q.1, q.2.1, q.2.2.1, va_K.moved (u := U) (U := U.calling g mk a) (Vm.Alike.refl U.vm) q.2.2.2.1, q.2.2.2.2⟩, va_recv hK hP (ci := 1) (q0 := 0) rfl rfl, fun U hU hW => ⟨rfl, by rw [hU], by rw [hU]; exact hP, va_K.moved hW.alike hK, hD.weaken (fun _ _ _ _ => trivial)⟩⟩ rfl rfl hl.1 rfl (lv_room (Nat.le_of_ble_eq_true rfl)) dX1_first_275 ⟨Nat.zero_le _, Nat.zero_le _⟩) hA hD hP hS (fun o_11 H locs eo_11 hP hD hS => ?_)
                        have hP : va_P (dC, dI) vwCl (wm h0 q_memory k_memory v_atp v_vsAtp v_hgatp v_rights o_11 v_found v_wanted v_ofEntry m_memory) H := hP
                        have hD : va_D A (wm h0 q_memory k_memory v_atp v_vsAtp v_hgatp v_rights o_11 v_found v_wanted v_ofEntry m_memory) := hD
                        refine lv_lconst (v := 0) hx hb dX1_first_278 (by decide) ?_
                        exact W.lret (v := 0) hx hb hr (fun t ht hW => ⟨⟨_, (0, o_11, v_wanted, v_ofEntry), rfl, ⟨rfl, by subst eo_11; subst ez_10; subst ez_5; subst ez_4; subst eo_3; subst ez_2; subst ez_1; first | (rw [fm_first0, if_pos c_1, if_pos c_90, if_neg c_114, if_pos c_122, if_pos c_223, if_neg c_233]; done) | (simp only [fm_first0, if_pos c_1, if_pos c_90, if_neg c_114, if_pos c_122, if_pos c_223, if_neg c_233]; done) | (rw [fm_first0, if_pos c_1, if_pos c_90, if_neg c_114, if_pos c_122, if_pos c_223, if_neg c_233] <;> rfl)⟩, by rw [ht]; exact hP, va_K.moved hW.alike hK, hD⟩, hS.F ht⟩) hS.2.2 dX1_first_279
                      · skip
                        exact absurd (by decide) c_21b
                    · skip
                      refine lv_iload hx hb dX1_first_236 (lv_at hl 0 rfl) ?_
                      refine lv_bipush (v := 7) hx hb dX1_first_238 (by decide) ?_
                      refine cs_i (va_runS (As := [.int z_5, .int 7]) (rest := []) ⟨hx, hb, hml, hown, hts⟩ (ctm_isSet l H.size z_5 7) (va_cwS 2 hts gX1_first_X1_isSet rfl rfl rfl (by decide +kernel) ⟨Nat.le_of_ble_eq_true rfl, Nat.le_of_ble_eq_true rfl⟩) ⟨fun a U g mk q => q, fun U hU hW => ⟨rfl, congrArg Array.size hU⟩⟩ rfl rfl hl.1 rfl (lv_room (Nat.le_of_ble_eq_true rfl)) dX1_first_240 ⟨Nat.zero_le _, Nat.zero_le _⟩) hA hP hS (fun H locs hP hS => ?_)
                      refine lv_if_eq (tgt := 249) hx hb dX1_first_243 (by decide) (fun c_243 => ?_) (fun c_243 => ?_)
                      · skip
                        refine lv_iload hx hb dX1_first_249 (lv_at hl 0 rfl) ?_
                        refine lv_bipush (v := 10) hx hb dX1_first_251 (by decide) ?_
                        refine lv_iushr (v := jiushr z_5 10) hx hb dX1_first_253 rfl ?_
                        refine lv_i2l (v := (jiushr z_5 10).toInt64) hx hb dX1_first_254 rfl ?_
                        refine lv_bipush (v := 12) hx hb dX1_first_255 (by decide) ?_
                        refine lv_lshl (v := jlshl ((jiushr z_5 10).toInt64) 12) hx hb dX1_first_257 rfl ?_
                        refine lv_topl (fun z_12 ez_12 => ?_)
                        refine lv_lstore (lv' := [(9, .long z_12), (14, .int z_5), (12, .long z_4), (11, .int 1), (0, .ref h0), (1, .int a0), (2, .long a1), (4, .int a2), (5, .int a3), (6, .int a4), (7, .int a5), (8, .int 0)]) hx hb dX1_first_258 hl (by decide) rfl (fun ls hl => ?_)
                        refine lv_iinc (v := 0) (lv' := [(11, .int 0), (9, .long z_12), (14, .int z_5), (12, .long z_4), (0, .ref h0), (1, .int a0), (2, .long a1), (4, .int a2), (5, .int a3), (6, .int a4), (7, .int a5), (8, .int 0)]) hx hb dX1_first_260 hl (k := 3) rfl (by decide) (by decide) rfl (fun ls hl => ?_)
                        refine lv_goto (tgt := 19) hx hb dX1_first_263 (by decide) ?_
                        refine lv_iload hx hb dX1_first_19 (lv_at hl 0 rfl) ?_
                        refine lv_if_lt (tgt := 266) hx hb dX1_first_21 (by decide) (fun c_21b => ?_) (fun c_21b => ?_)
                        · skip
                          exact absurd c_21b (by decide)
                        · skip
                          refine lv_lload hx hb dX1_first_24 (lv_at hl 1 rfl) ?_
                          refine lv_ldc2 hx hb hown (hts (.constantLong RX1 53 4) (by decide +kernel)) dX1_first_26 ?_
                          refine lv_iload hx hb dX1_first_29 (lv_at hl 0 rfl) ?_
                          refine lv_iconst (v := 1) hx hb dX1_first_31 (by decide) ?_
                          refine lv_icmp_ne (tgt := 46) hx hb dX1_first_32 (by decide) (fun c_32b => ?_) (fun c_32b => ?_)
                          · skip
                            refine lv_lload_n hx hb dX1_first_46 rfl (lv_at hl 6 rfl) ?_
                            refine lv_bipush (v := 12) hx hb dX1_first_47 (by decide) ?_
                            refine lv_lshr (v := jlshr a1 12) hx hb dX1_first_49 rfl ?_
                            refine lv_ldc2 hx hb hown (hts (.constantLong RX1 44 1023) (by decide +kernel)) dX1_first_50 ?_
                            refine lv_land hx hb dX1_first_53 ?_
                            refine lv_lmul hx hb dX1_first_54 ?_
                            refine lv_ladd hx hb dX1_first_55 ?_
                            refine lv_topl (fun z_13 ez_13 => ?_)
                            refine lv_lstore (lv' := [(12, .long z_13), (11, .int 0), (9, .long z_12), (14, .int z_5), (0, .ref h0), (1, .int a0), (2, .long a1), (4, .int a2), (5, .int a3), (6, .int a4), (7, .int a5), (8, .int 0)]) hx hb dX1_first_56 hl (by decide) rfl (fun ls hl => ?_)
                            refine lv_iload hx hb dX1_first_58 (lv_at hl 11 rfl) ?_
                            refine lv_if_eq (tgt := 76) hx hb dX1_first_60 (by decide) (fun c_60b => ?_) (fun c_60b => ?_)
                            · skip
                              refine lv_aload_n hx hb dX1_first_76 rfl (lv_at hl 4 rfl) ?_
                              refine lv_iload hx hb dX1_first_77 (lv_at hl 7 rfl) ?_
                              refine lv_lload hx hb dX1_first_79 (lv_at hl 0 rfl) ?_
                              refine cw_l (va_runV (As := [.int a2, .long z_13]) (rest := []) ⟨hx, hb, hml, hown, hts⟩ (ctm_inMemory l dC dI h0 q_memory k_memory H.size v_atp v_vsAtp v_hgatp v_rights o_3.2 v_found v_wanted v_ofEntry m_memory a2 z_13) (cwV 2 hts gX1_first_X1_inMemory rfl rfl rfl (by decide +kernel) ⟨Nat.le_of_ble_eq_true rfl, Nat.le_of_ble_eq_true rfl⟩) ⟨fun a U g mk q => ⟨q.1, q.2.1, q.2.2.1, va_K.moved (u := U) (U := U.calling g mk a) (Vm.Alike.refl U.vm) q.2.2.2.1, q.2.2.2.2⟩, va_recv hK hP (ci := 1) (q0 := 0) rfl rfl, fun U hU hW => ⟨rfl, by rw [hU], by rw [hU]; exact hP, va_K.moved hW.alike hK, hD.weaken (fun _ _ _ _ => trivial)⟩⟩ rfl rfl hl.1 rfl (lv_room (Nat.le_of_ble_eq_true rfl)) dX1_first_81 ⟨Nat.zero_le _, Nat.zero_le _⟩) hA hD hP hS (fun o_14 H locs eo_14 hP hD hS => ?_)
                              have hP : va_P (dC, dI) vwCl (wm h0 q_memory k_memory v_atp v_vsAtp v_hgatp v_rights o_14.2 v_found v_wanted v_ofEntry m_memory) H := hP
                              have hD : va_D A (wm h0 q_memory k_memory v_atp v_vsAtp v_hgatp v_rights o_14.2 v_found v_wanted v_ofEntry m_memory) := hD
                              refine lv_topl (fun z_15 ez_15 => ?_)
                              refine lv_lstore (lv' := [(12, .long z_15), (11, .int 0), (9, .long z_12), (14, .int z_5), (0, .ref h0), (1, .int a0), (2, .long a1), (4, .int a2), (5, .int a3), (6, .int a4), (7, .int a5), (8, .int 0)]) hx hb dX1_first_84 hl (by decide) rfl (fun ls hl => ?_)
                              refine lv_aload_n hx hb dX1_first_86 rfl (lv_at hl 4 rfl) ?_
                              refine va_get (D := (dC, dI)) (ci := 1) (v := .int o_14.2) (C := RX1) (T := TX1) (N := 9) hx hb hts hwX hown hK hP 0 rfl rfl 5 (by decide) (hts (.fieldLink RX1 14 "StageWalkerModel" "code" "I") (by decide +kernel)) (fun _ h9 => h9) rfl dX1_first_87 ?_
                              refine lv_if_eq (tgt := 95) hx hb dX1_first_90 (by decide) (fun c_90b => ?_) (fun c_90b => ?_)
                              · skip
                                refine lv_aload_n hx hb dX1_first_95 rfl (lv_at hl 4 rfl) ?_
                                refine va_get (D := (dC, dI)) (ci := 1) (v := .ref q_memory) (C := RX1) (T := TX1) (N := 9) hx hb hts hwX hown hK hP 0 rfl rfl 0 (by decide) (hts (.fieldLink RX1 8 "StageWalkerModel" "memory" "[I") (by decide +kernel)) (fun _ h9 => h9) rfl dX1_first_96 ?_
                                refine lv_lload hx hb dX1_first_99 (lv_at hl 0 rfl) ?_
                                refine lv_ldc2 hx hb hown (hts (.constantLong RX1 53 4) (by decide +kernel)) dX1_first_101 ?_
                                refine lv_ldiv hx hb dX1_first_104 (by decide) ?_
                                refine lv_l2i (v := (z_15 / 4).toInt32) hx hb dX1_first_105 rfl ?_
                                refine va_iald (cA := k_memory) (f := m_memory) hx hb hK hP 1 0 rfl rfl (i := (z_15 / 4).toInt32) (vf_0 ez_12 ez_13 eo_14 ez_15 c_90b) dX1_first_106 ?_
                                refine lv_topi (fun z_16 ez_16 => ?_)
                                refine lv_istore (lv' := [(14, .int z_16), (12, .long z_15), (11, .int 0), (9, .long z_12), (0, .ref h0), (1, .int a0), (2, .long a1), (4, .int a2), (5, .int a3), (6, .int a4), (7, .int a5), (8, .int 0)]) hx hb dX1_first_107 hl (by decide) rfl (fun ls hl => ?_)
                                refine lv_iload hx hb dX1_first_109 (lv_at hl 0 rfl) ?_
                                refine cs_i (va_runS (As := [.int z_16]) (rest := []) ⟨hx, hb, hml, hown, hts⟩ (ctm_stands l H.size z_16) (va_cwS 1 hts gX1_first_X1_stands rfl rfl rfl (by decide +kernel) ⟨Nat.le_of_ble_eq_true rfl, Nat.le_of_ble_eq_true rfl⟩) ⟨fun a U g mk q => q, fun U hU hW => ⟨rfl, congrArg Array.size hU⟩⟩ rfl rfl hl.1 rfl (lv_room (Nat.le_of_ble_eq_true rfl)) dX1_first_111 ⟨Nat.zero_le _, Nat.zero_le _⟩) hA hP hS (fun H locs hP hS => ?_)
                                refine lv_if_eq (tgt := 209) hx hb dX1_first_114 (by decide) (fun c_114b => ?_) (fun c_114b => ?_)
                                · skip
                                  refine lv_iload hx hb dX1_first_209 (lv_at hl 0 rfl) ?_
                                  refine cs_i (va_runS (As := [.int z_16]) (rest := []) ⟨hx, hb, hml, hown, hts⟩ (ctm_stands l H.size z_16) (va_cwS 1 hts gX1_first_X1_stands rfl rfl rfl (by decide +kernel) ⟨Nat.le_of_ble_eq_true rfl, Nat.le_of_ble_eq_true rfl⟩) ⟨fun a U g mk q => q, fun U hU hW => ⟨rfl, congrArg Array.size hU⟩⟩ rfl rfl hl.1 rfl (lv_room (Nat.le_of_ble_eq_true rfl)) dX1_first_211 ⟨Nat.zero_le _, Nat.zero_le _⟩) hA hP hS (fun H locs hP hS => ?_)
                                  refine lv_if_eq (tgt := 246) hx hb dX1_first_214 (by decide) (fun c_214b => ?_) (fun c_214b => ?_)
                                  · skip
                                    refine lv_iconst (v := 0) hx hb dX1_first_246 (by decide) ?_
                                    refine lv_istore (lv' := [(11, .int 0), (14, .int z_16), (12, .long z_15), (9, .long z_12), (0, .ref h0), (1, .int a0), (2, .long a1), (4, .int a2), (5, .int a3), (6, .int a4), (7, .int a5), (8, .int 0)]) hx hb dX1_first_247 hl (by decide) rfl (fun ls hl => ?_)
                                    refine lv_iload hx hb dX1_first_249 (lv_at hl 1 rfl) ?_
                                    refine lv_bipush (v := 10) hx hb dX1_first_251 (by decide) ?_
                                    refine lv_iushr (v := jiushr z_16 10) hx hb dX1_first_253 rfl ?_
                                    refine lv_i2l (v := (jiushr z_16 10).toInt64) hx hb dX1_first_254 rfl ?_
                                    refine lv_bipush (v := 12) hx hb dX1_first_255 (by decide) ?_
                                    refine lv_lshl (v := jlshl ((jiushr z_16 10).toInt64) 12) hx hb dX1_first_257 rfl ?_
                                    refine lv_topl (fun z_17 ez_17 => ?_)
                                    refine lv_lstore (lv' := [(9, .long z_17), (11, .int 0), (14, .int z_16), (12, .long z_15), (0, .ref h0), (1, .int a0), (2, .long a1), (4, .int a2), (5, .int a3), (6, .int a4), (7, .int a5), (8, .int 0)]) hx hb dX1_first_258 hl (by decide) rfl (fun ls hl => ?_)
                                    refine lv_iinc (v := -1) (lv' := [(11, .int ((-1))), (9, .long z_17), (14, .int z_16), (12, .long z_15), (0, .ref h0), (1, .int a0), (2, .long a1), (4, .int a2), (5, .int a3), (6, .int a4), (7, .int a5), (8, .int 0)]) hx hb dX1_first_260 hl (k := 1) rfl (by decide) (by decide) rfl (fun ls hl => ?_)
                                    refine lv_goto (tgt := 19) hx hb dX1_first_263 (by decide) ?_
                                    refine lv_iload hx hb dX1_first_19 (lv_at hl 0 rfl) ?_
                                    refine lv_if_lt (tgt := 266) hx hb dX1_first_21 (by decide) (fun c_21bb => ?_) (fun c_21bb => ?_)
                                    · skip
                                      refine lv_aload_n hx hb dX1_first_266 rfl (lv_at hl 4 rfl) ?_
                                      refine lv_iload hx hb dX1_first_267 (lv_at hl 7 rfl) ?_
                                      refine lv_bipush (v := 12) hx hb dX1_first_269 (by decide) ?_
                                      refine lv_bipush (v := 13) hx hb dX1_first_271 (by decide) ?_
                                      refine lv_bipush (v := 15) hx hb dX1_first_273 (by decide) ?_
                                      refine cw_v (va_runV (As := [.int a2, .int 12, .int 13, .int 15]) (rest := []) ⟨hx, hb, hml, hown, hts⟩ (ctm_raise l dC dI h0 q_memory k_memory H.size v_atp v_vsAtp v_hgatp v_rights o_14.2 v_found v_wanted v_ofEntry m_memory a2 12 13 15) (cwV 4 hts gX1_first_X1_raise rfl rfl rfl (by decide +kernel) ⟨Nat.le_of_ble_eq_true rfl, Nat.le_of_ble_eq_true rfl⟩) ⟨fun a U g mk q => ⟨q.1, q.2.1, q.2.2.1, va_K.moved (u := U) (U := U.calling g mk a) (Vm.Alike.refl U.vm) q.2.2.2.1, q.2.2.2.2⟩, va_recv hK hP (ci := 1) (q0 := 0) rfl rfl, fun U hU hW => ⟨rfl, by rw [hU], by rw [hU]; exact hP, va_K.moved hW.alike hK, hD.weaken (fun _ _ _ _ => trivial)⟩⟩ rfl rfl hl.1 rfl (lv_room (Nat.le_of_ble_eq_true rfl)) dX1_first_275 ⟨Nat.zero_le _, Nat.zero_le _⟩) hA hD hP hS (fun o_18 H locs eo_18 hP hD hS => ?_)
                                      have hP : va_P (dC, dI) vwCl (wm h0 q_memory k_memory v_atp v_vsAtp v_hgatp v_rights o_18 v_found v_wanted v_ofEntry m_memory) H := hP
                                      have hD : va_D A (wm h0 q_memory k_memory v_atp v_vsAtp v_hgatp v_rights o_18 v_found v_wanted v_ofEntry m_memory) := hD
                                      refine lv_lconst (v := 0) hx hb dX1_first_278 (by decide) ?_
                                      exact W.lret (v := 0) hx hb hr (fun t ht hW => ⟨⟨_, (0, o_18, v_wanted, v_ofEntry), rfl, ⟨rfl, by subst eo_18; subst ez_17; subst ez_16; subst ez_15; subst eo_14; subst ez_13; subst ez_12; subst ez_5; subst ez_4; subst eo_3; subst ez_2; subst ez_1; first | (rw [fm_first0, if_pos c_1, if_pos c_90, if_neg c_114, if_pos c_122, if_pos c_223, if_pos c_233, if_pos c_243, if_pos c_90b, if_pos c_114b]; done) | (simp only [fm_first0, if_pos c_1, if_pos c_90, if_neg c_114, if_pos c_122, if_pos c_223, if_pos c_233, if_pos c_243, if_pos c_90b, if_pos c_114b]; done) | (rw [fm_first0, if_pos c_1, if_pos c_90, if_neg c_114, if_pos c_122, if_pos c_223, if_pos c_233, if_pos c_243, if_pos c_90b, if_pos c_114b] <;> rfl)⟩, by rw [ht]; exact hP, va_K.moved hW.alike hK, hD⟩, hS.F ht⟩) hS.2.2 dX1_first_279
                                    · skip
                                      exact absurd (by decide) c_21bb
                                  · skip
                                    exact absurd c_114b c_214b
                                · skip
                                  refine lv_iload hx hb dX1_first_117 (lv_at hl 0 rfl) ?_
                                  refine cs_i (va_runS (As := [.int z_16]) (rest := []) ⟨hx, hb, hml, hown, hts⟩ (ctm_isLeaf l H.size z_16) (va_cwS 1 hts gX1_first_X1_isLeaf rfl rfl rfl (by decide +kernel) ⟨Nat.le_of_ble_eq_true rfl, Nat.le_of_ble_eq_true rfl⟩) ⟨fun a U g mk q => q, fun U hU hW => ⟨rfl, congrArg Array.size hU⟩⟩ rfl rfl hl.1 rfl (lv_room (Nat.le_of_ble_eq_true rfl)) dX1_first_119 ⟨Nat.zero_le _, Nat.zero_le _⟩) hA hP hS (fun H locs hP hS => ?_)
                                  refine lv_if_eq (tgt := 209) hx hb dX1_first_122 (by decide) (fun c_122b => ?_) (fun c_122b => ?_)
                                  · skip
                                    refine lv_iload hx hb dX1_first_209 (lv_at hl 0 rfl) ?_
                                    refine cs_i (va_runS (As := [.int z_16]) (rest := []) ⟨hx, hb, hml, hown, hts⟩ (ctm_stands l H.size z_16) (va_cwS 1 hts gX1_first_X1_stands rfl rfl rfl (by decide +kernel) ⟨Nat.le_of_ble_eq_true rfl, Nat.le_of_ble_eq_true rfl⟩) ⟨fun a U g mk q => q, fun U hU hW => ⟨rfl, congrArg Array.size hU⟩⟩ rfl rfl hl.1 rfl (lv_room (Nat.le_of_ble_eq_true rfl)) dX1_first_211 ⟨Nat.zero_le _, Nat.zero_le _⟩) hA hP hS (fun H locs hP hS => ?_)
                                    refine lv_if_eq (tgt := 246) hx hb dX1_first_214 (by decide) (fun c_214b => ?_) (fun c_214b => ?_)
                                    · skip
                                      exact absurd c_214b c_114b
                                    · skip
                                      refine lv_iload hx hb dX1_first_217 (lv_at hl 0 rfl) ?_
                                      refine lv_iconst (v := 4) hx hb dX1_first_219 (by decide) ?_
                                      refine cs_i (va_runS (As := [.int z_16, .int 4]) (rest := []) ⟨hx, hb, hml, hown, hts⟩ (ctm_isSet l H.size z_16 4) (va_cwS 2 hts gX1_first_X1_isSet rfl rfl rfl (by decide +kernel) ⟨Nat.le_of_ble_eq_true rfl, Nat.le_of_ble_eq_true rfl⟩) ⟨fun a U g mk q => q, fun U hU hW => ⟨rfl, congrArg Array.size hU⟩⟩ rfl rfl hl.1 rfl (lv_room (Nat.le_of_ble_eq_true rfl)) dX1_first_220 ⟨Nat.zero_le _, Nat.zero_le _⟩) hA hP hS (fun H locs hP hS => ?_)
                                      refine lv_if_ne (tgt := 246) hx hb dX1_first_223 (by decide) (fun c_223b => ?_) (fun c_223b => ?_)
                                      · skip
                                        refine lv_iconst (v := 0) hx hb dX1_first_246 (by decide) ?_
                                        refine lv_istore (lv' := [(11, .int 0), (14, .int z_16), (12, .long z_15), (9, .long z_12), (0, .ref h0), (1, .int a0), (2, .long a1), (4, .int a2), (5, .int a3), (6, .int a4), (7, .int a5), (8, .int 0)]) hx hb dX1_first_247 hl (by decide) rfl (fun ls hl => ?_)
                                        refine lv_iload hx hb dX1_first_249 (lv_at hl 1 rfl) ?_
                                        refine lv_bipush (v := 10) hx hb dX1_first_251 (by decide) ?_
                                        refine lv_iushr (v := jiushr z_16 10) hx hb dX1_first_253 rfl ?_
                                        refine lv_i2l (v := (jiushr z_16 10).toInt64) hx hb dX1_first_254 rfl ?_
                                        refine lv_bipush (v := 12) hx hb dX1_first_255 (by decide) ?_
                                        refine lv_lshl (v := jlshl ((jiushr z_16 10).toInt64) 12) hx hb dX1_first_257 rfl ?_
                                        refine lv_topl (fun z_19 ez_19 => ?_)
                                        refine lv_lstore (lv' := [(9, .long z_19), (11, .int 0), (14, .int z_16), (12, .long z_15), (0, .ref h0), (1, .int a0), (2, .long a1), (4, .int a2), (5, .int a3), (6, .int a4), (7, .int a5), (8, .int 0)]) hx hb dX1_first_258 hl (by decide) rfl (fun ls hl => ?_)
                                        refine lv_iinc (v := -1) (lv' := [(11, .int ((-1))), (9, .long z_19), (14, .int z_16), (12, .long z_15), (0, .ref h0), (1, .int a0), (2, .long a1), (4, .int a2), (5, .int a3), (6, .int a4), (7, .int a5), (8, .int 0)]) hx hb dX1_first_260 hl (k := 1) rfl (by decide) (by decide) rfl (fun ls hl => ?_)
                                        refine lv_goto (tgt := 19) hx hb dX1_first_263 (by decide) ?_
                                        refine lv_iload hx hb dX1_first_19 (lv_at hl 0 rfl) ?_
                                        refine lv_if_lt (tgt := 266) hx hb dX1_first_21 (by decide) (fun c_21bb => ?_) (fun c_21bb => ?_)
                                        · skip
                                          refine lv_aload_n hx hb dX1_first_266 rfl (lv_at hl 4 rfl) ?_
                                          refine lv_iload hx hb dX1_first_267 (lv_at hl 7 rfl) ?_
                                          refine lv_bipush (v := 12) hx hb dX1_first_269 (by decide) ?_
                                          refine lv_bipush (v := 13) hx hb dX1_first_271 (by decide) ?_
                                          refine lv_bipush (v := 15) hx hb dX1_first_273 (by decide) ?_
                                          refine cw_v (va_runV (As := [.int a2, .int 12, .int 13, .int 15]) (rest := []) ⟨hx, hb, hml, hown, hts⟩ (ctm_raise l dC dI h0 q_memory k_memory H.size v_atp v_vsAtp v_hgatp v_rights o_14.2 v_found v_wanted v_ofEntry m_memory a2 12 13 15) (cwV 4 hts gX1_first_X1_raise rfl rfl rfl (by decide +kernel) ⟨Nat.le_of_ble_eq_true rfl, Nat.le_of_ble_eq_true rfl⟩) ⟨fun a U g mk q => ⟨q.1, q.2.1, q.2.2.1, va_K.moved (u := U) (U := U.calling g mk a) (Vm.Alike.refl U.vm) q.2.2.2.1, q.2.2.2.2⟩, va_recv hK hP (ci := 1) (q0 := 0) rfl rfl, fun U hU hW => ⟨rfl, by rw [hU], by rw [hU]; exact hP, va_K.moved hW.alike hK, hD.weaken (fun _ _ _ _ => trivial)⟩⟩ rfl rfl hl.1 rfl (lv_room (Nat.le_of_ble_eq_true rfl)) dX1_first_275 ⟨Nat.zero_le _, Nat.zero_le _⟩) hA hD hP hS (fun o_20 H locs eo_20 hP hD hS => ?_)
                                          have hP : va_P (dC, dI) vwCl (wm h0 q_memory k_memory v_atp v_vsAtp v_hgatp v_rights o_20 v_found v_wanted v_ofEntry m_memory) H := hP
                                          have hD : va_D A (wm h0 q_memory k_memory v_atp v_vsAtp v_hgatp v_rights o_20 v_found v_wanted v_ofEntry m_memory) := hD
                                          refine lv_lconst (v := 0) hx hb dX1_first_278 (by decide) ?_
                                          exact W.lret (v := 0) hx hb hr (fun t ht hW => ⟨⟨_, (0, o_20, v_wanted, v_ofEntry), rfl, ⟨rfl, by subst eo_20; subst ez_19; subst ez_16; subst ez_15; subst eo_14; subst ez_13; subst ez_12; subst ez_5; subst ez_4; subst eo_3; subst ez_2; subst ez_1; first | (rw [fm_first0, if_pos c_1, if_pos c_90, if_neg c_114, if_pos c_122, if_pos c_223, if_pos c_233, if_pos c_243, if_pos c_90b, if_neg c_114b, if_pos c_122b, if_neg c_223b]; done) | (simp only [fm_first0, if_pos c_1, if_pos c_90, if_neg c_114, if_pos c_122, if_pos c_223, if_pos c_233, if_pos c_243, if_pos c_90b, if_neg c_114b, if_pos c_122b, if_neg c_223b]; done) | (rw [fm_first0, if_pos c_1, if_pos c_90, if_neg c_114, if_pos c_122, if_pos c_223, if_pos c_233, if_pos c_243, if_pos c_90b, if_neg c_114b, if_pos c_122b, if_neg c_223b] <;> rfl)⟩, by rw [ht]; exact hP, va_K.moved hW.alike hK, hD⟩, hS.F ht⟩) hS.2.2 dX1_first_279
                                        · skip
                                          exact absurd (by decide) c_21bb
                                      · skip
                                        refine lv_iload hx hb dX1_first_226 (lv_at hl 0 rfl) ?_
                                        refine lv_bipush (v := 6) hx hb dX1_first_228 (by decide) ?_
                                        refine cs_i (va_runS (As := [.int z_16, .int 6]) (rest := []) ⟨hx, hb, hml, hown, hts⟩ (ctm_isSet l H.size z_16 6) (va_cwS 2 hts gX1_first_X1_isSet rfl rfl rfl (by decide +kernel) ⟨Nat.le_of_ble_eq_true rfl, Nat.le_of_ble_eq_true rfl⟩) ⟨fun a U g mk q => q, fun U hU hW => ⟨rfl, congrArg Array.size hU⟩⟩ rfl rfl hl.1 rfl (lv_room (Nat.le_of_ble_eq_true rfl)) dX1_first_230 ⟨Nat.zero_le _, Nat.zero_le _⟩) hA hP hS (fun H locs hP hS => ?_)
                                        refine lv_if_ne (tgt := 246) hx hb dX1_first_233 (by decide) (fun c_233b => ?_) (fun c_233b => ?_)
                                        · skip
                                          refine lv_iconst (v := 0) hx hb dX1_first_246 (by decide) ?_
                                          refine lv_istore (lv' := [(11, .int 0), (14, .int z_16), (12, .long z_15), (9, .long z_12), (0, .ref h0), (1, .int a0), (2, .long a1), (4, .int a2), (5, .int a3), (6, .int a4), (7, .int a5), (8, .int 0)]) hx hb dX1_first_247 hl (by decide) rfl (fun ls hl => ?_)
                                          refine lv_iload hx hb dX1_first_249 (lv_at hl 1 rfl) ?_
                                          refine lv_bipush (v := 10) hx hb dX1_first_251 (by decide) ?_
                                          refine lv_iushr (v := jiushr z_16 10) hx hb dX1_first_253 rfl ?_
                                          refine lv_i2l (v := (jiushr z_16 10).toInt64) hx hb dX1_first_254 rfl ?_
                                          refine lv_bipush (v := 12) hx hb dX1_first_255 (by decide) ?_
                                          refine lv_lshl (v := jlshl ((jiushr z_16 10).toInt64) 12) hx hb dX1_first_257 rfl ?_
                                          refine lv_topl (fun z_21 ez_21 => ?_)
                                          refine lv_lstore (lv' := [(9, .long z_21), (11, .int 0), (14, .int z_16), (12, .long z_15), (0, .ref h0), (1, .int a0), (2, .long a1), (4, .int a2), (5, .int a3), (6, .int a4), (7, .int a5), (8, .int 0)]) hx hb dX1_first_258 hl (by decide) rfl (fun ls hl => ?_)
                                          refine lv_iinc (v := -1) (lv' := [(11, .int ((-1))), (9, .long z_21), (14, .int z_16), (12, .long z_15), (0, .ref h0), (1, .int a0), (2, .long a1), (4, .int a2), (5, .int a3), (6, .int a4), (7, .int a5), (8, .int 0)]) hx hb dX1_first_260 hl (k := 1) rfl (by decide) (by decide) rfl (fun ls hl => ?_)
                                          refine lv_goto (tgt := 19) hx hb dX1_first_263 (by decide) ?_
                                          refine lv_iload hx hb dX1_first_19 (lv_at hl 0 rfl) ?_
                                          refine lv_if_lt (tgt := 266) hx hb dX1_first_21 (by decide) (fun c_21bb => ?_) (fun c_21bb => ?_)
                                          · skip
                                            refine lv_aload_n hx hb dX1_first_266 rfl (lv_at hl 4 rfl) ?_
                                            refine lv_iload hx hb dX1_first_267 (lv_at hl 7 rfl) ?_
                                            refine lv_bipush (v := 12) hx hb dX1_first_269 (by decide) ?_
                                            refine lv_bipush (v := 13) hx hb dX1_first_271 (by decide) ?_
                                            refine lv_bipush (v := 15) hx hb dX1_first_273 (by decide) ?_
                                            refine cw_v (va_runV (As := [.int a2, .int 12, .int 13, .int 15]) (rest := []) ⟨hx, hb, hml, hown, hts⟩ (ctm_raise l dC dI h0 q_memory k_memory H.size v_atp v_vsAtp v_hgatp v_rights o_14.2 v_found v_wanted v_ofEntry m_memory a2 12 13 15) (cwV 4 hts gX1_first_X1_raise rfl rfl rfl (by decide +kernel) ⟨Nat.le_of_ble_eq_true rfl, Nat.le_of_ble_eq_true rfl⟩) ⟨fun a U g mk q => ⟨q.1, q.2.1, q.2.2.1, va_K.moved (u := U) (U := U.calling g mk a) (Vm.Alike.refl U.vm) q.2.2.2.1, q.2.2.2.2⟩, va_recv hK hP (ci := 1) (q0 := 0) rfl rfl, fun U hU hW => ⟨rfl, by rw [hU], by rw [hU]; exact hP, va_K.moved hW.alike hK, hD.weaken (fun _ _ _ _ => trivial)⟩⟩ rfl rfl hl.1 rfl (lv_room (Nat.le_of_ble_eq_true rfl)) dX1_first_275 ⟨Nat.zero_le _, Nat.zero_le _⟩) hA hD hP hS (fun o_22 H locs eo_22 hP hD hS => ?_)
                                            have hP : va_P (dC, dI) vwCl (wm h0 q_memory k_memory v_atp v_vsAtp v_hgatp v_rights o_22 v_found v_wanted v_ofEntry m_memory) H := hP
                                            have hD : va_D A (wm h0 q_memory k_memory v_atp v_vsAtp v_hgatp v_rights o_22 v_found v_wanted v_ofEntry m_memory) := hD
                                            refine lv_lconst (v := 0) hx hb dX1_first_278 (by decide) ?_
                                            exact W.lret (v := 0) hx hb hr (fun t ht hW => ⟨⟨_, (0, o_22, v_wanted, v_ofEntry), rfl, ⟨rfl, by subst eo_22; subst ez_21; subst ez_16; subst ez_15; subst eo_14; subst ez_13; subst ez_12; subst ez_5; subst ez_4; subst eo_3; subst ez_2; subst ez_1; first | (rw [fm_first0, if_pos c_1, if_pos c_90, if_neg c_114, if_pos c_122, if_pos c_223, if_pos c_233, if_pos c_243, if_pos c_90b, if_neg c_114b, if_pos c_122b, if_pos c_223b, if_neg c_233b]; done) | (simp only [fm_first0, if_pos c_1, if_pos c_90, if_neg c_114, if_pos c_122, if_pos c_223, if_pos c_233, if_pos c_243, if_pos c_90b, if_neg c_114b, if_pos c_122b, if_pos c_223b, if_neg c_233b]; done) | (rw [fm_first0, if_pos c_1, if_pos c_90, if_neg c_114, if_pos c_122, if_pos c_223, if_pos c_233, if_pos c_243, if_pos c_90b, if_neg c_114b, if_pos c_122b, if_pos c_223b, if_neg c_233b] <;> rfl)⟩, by rw [ht]; exact hP, va_K.moved hW.alike hK, hD⟩, hS.F ht⟩) hS.2.2 dX1_first_279
                                          · skip
                                            exact absurd (by decide) c_21bb
                                        · skip
                                          refine lv_iload hx hb dX1_first_236 (lv_at hl 0 rfl) ?_
                                          refine lv_bipush (v := 7) hx hb dX1_first_238 (by decide) ?_
                                          refine cs_i (va_runS (As := [.int z_16, .int 7]) (rest := []) ⟨hx, hb, hml, hown, hts⟩ (ctm_isSet l H.size z_16 7) (va_cwS 2 hts gX1_first_X1_isSet rfl rfl rfl (by decide +kernel) ⟨Nat.le_of_ble_eq_true rfl, Nat.le_of_ble_eq_true rfl⟩) ⟨fun a U g mk q => q, fun U hU hW => ⟨rfl, congrArg Array.size hU⟩⟩ rfl rfl hl.1 rfl (lv_room (Nat.le_of_ble_eq_true rfl)) dX1_first_240 ⟨Nat.zero_le _, Nat.zero_le _⟩) hA hP hS (fun H locs hP hS => ?_)
                                          refine lv_if_eq (tgt := 249) hx hb dX1_first_243 (by decide) (fun c_243b => ?_) (fun c_243b => ?_)
                                          · skip
                                            refine lv_iload hx hb dX1_first_249 (lv_at hl 0 rfl) ?_
                                            refine lv_bipush (v := 10) hx hb dX1_first_251 (by decide) ?_
                                            refine lv_iushr (v := jiushr z_16 10) hx hb dX1_first_253 rfl ?_
                                            refine lv_i2l (v := (jiushr z_16 10).toInt64) hx hb dX1_first_254 rfl ?_
                                            refine lv_bipush (v := 12) hx hb dX1_first_255 (by decide) ?_
                                            refine lv_lshl (v := jlshl ((jiushr z_16 10).toInt64) 12) hx hb dX1_first_257 rfl ?_
                                            refine lv_topl (fun z_23 ez_23 => ?_)
                                            refine lv_lstore (lv' := [(9, .long z_23), (14, .int z_16), (12, .long z_15), (11, .int 0), (0, .ref h0), (1, .int a0), (2, .long a1), (4, .int a2), (5, .int a3), (6, .int a4), (7, .int a5), (8, .int 0)]) hx hb dX1_first_258 hl (by decide) rfl (fun ls hl => ?_)
                                            refine lv_iinc (v := -1) (lv' := [(11, .int ((-1))), (9, .long z_23), (14, .int z_16), (12, .long z_15), (0, .ref h0), (1, .int a0), (2, .long a1), (4, .int a2), (5, .int a3), (6, .int a4), (7, .int a5), (8, .int 0)]) hx hb dX1_first_260 hl (k := 3) rfl (by decide) (by decide) rfl (fun ls hl => ?_)
                                            refine lv_goto (tgt := 19) hx hb dX1_first_263 (by decide) ?_
                                            refine lv_iload hx hb dX1_first_19 (lv_at hl 0 rfl) ?_
                                            refine lv_if_lt (tgt := 266) hx hb dX1_first_21 (by decide) (fun c_21bb => ?_) (fun c_21bb => ?_)
                                            · skip
                                              refine lv_aload_n hx hb dX1_first_266 rfl (lv_at hl 4 rfl) ?_
                                              refine lv_iload hx hb dX1_first_267 (lv_at hl 7 rfl) ?_
                                              refine lv_bipush (v := 12) hx hb dX1_first_269 (by decide) ?_
                                              refine lv_bipush (v := 13) hx hb dX1_first_271 (by decide) ?_
                                              refine lv_bipush (v := 15) hx hb dX1_first_273 (by decide) ?_
                                              refine cw_v (va_runV (As := [.int a2, .int 12, .int 13, .int 15]) (rest := []) ⟨hx, hb, hml, hown, hts⟩ (ctm_raise l dC dI h0 q_memory k_memory H.size v_atp v_vsAtp v_hgatp v_rights o_14.2 v_found v_wanted v_ofEntry m_memory a2 12 13 15) (cwV 4 hts gX1_first_X1_raise rfl rfl rfl (by decide +kernel) ⟨Nat.le_of_ble_eq_true rfl, Nat.le_of_ble_eq_true rfl⟩) ⟨fun a U g mk q => ⟨q.1, q.2.1, q.2.2.1, va_K.moved (u := U) (U := U.calling g mk a) (Vm.Alike.refl U.vm) q.2.2.2.1, q.2.2.2.2⟩, va_recv hK hP (ci := 1) (q0 := 0) rfl rfl, fun U hU hW => ⟨rfl, by rw [hU], by rw [hU]; exact hP, va_K.moved hW.alike hK, hD.weaken (fun _ _ _ _ => trivial)⟩⟩ rfl rfl hl.1 rfl (lv_room (Nat.le_of_ble_eq_true rfl)) dX1_first_275 ⟨Nat.zero_le _, Nat.zero_le _⟩) hA hD hP hS (fun o_24 H locs eo_24 hP hD hS => ?_)
                                              have hP : va_P (dC, dI) vwCl (wm h0 q_memory k_memory v_atp v_vsAtp v_hgatp v_rights o_24 v_found v_wanted v_ofEntry m_memory) H := hP
                                              have hD : va_D A (wm h0 q_memory k_memory v_atp v_vsAtp v_hgatp v_rights o_24 v_found v_wanted v_ofEntry m_memory) := hD
                                              refine lv_lconst (v := 0) hx hb dX1_first_278 (by decide) ?_
                                              exact W.lret (v := 0) hx hb hr (fun t ht hW => ⟨⟨_, (0, o_24, v_wanted, v_ofEntry), rfl, ⟨rfl, by subst eo_24; subst ez_23; subst ez_16; subst ez_15; subst eo_14; subst ez_13; subst ez_12; subst ez_5; subst ez_4; subst eo_3; subst ez_2; subst ez_1; first | (rw [fm_first0, if_pos c_1, if_pos c_90, if_neg c_114, if_pos c_122, if_pos c_223, if_pos c_233, if_pos c_243, if_pos c_90b, if_neg c_114b, if_pos c_122b, if_pos c_223b, if_pos c_233b, if_pos c_243b]; done) | (simp only [fm_first0, if_pos c_1, if_pos c_90, if_neg c_114, if_pos c_122, if_pos c_223, if_pos c_233, if_pos c_243, if_pos c_90b, if_neg c_114b, if_pos c_122b, if_pos c_223b, if_pos c_233b, if_pos c_243b]; done) | (rw [fm_first0, if_pos c_1, if_pos c_90, if_neg c_114, if_pos c_122, if_pos c_223, if_pos c_233, if_pos c_243, if_pos c_90b, if_neg c_114b, if_pos c_122b, if_pos c_223b, if_pos c_233b, if_pos c_243b] <;> rfl)⟩, by rw [ht]; exact hP, va_K.moved hW.alike hK, hD⟩, hS.F ht⟩) hS.2.2 dX1_first_279
                                            · skip
                                              exact absurd (by decide) c_21bb
                                          · skip
                                            refine lv_iconst (v := 0) hx hb dX1_first_246 (by decide) ?_
                                            refine lv_istore (lv' := [(11, .int 0), (14, .int z_16), (12, .long z_15), (9, .long z_12), (0, .ref h0), (1, .int a0), (2, .long a1), (4, .int a2), (5, .int a3), (6, .int a4), (7, .int a5), (8, .int 0)]) hx hb dX1_first_247 hl (by decide) rfl (fun ls hl => ?_)
                                            refine lv_iload hx hb dX1_first_249 (lv_at hl 1 rfl) ?_
                                            refine lv_bipush (v := 10) hx hb dX1_first_251 (by decide) ?_
                                            refine lv_iushr (v := jiushr z_16 10) hx hb dX1_first_253 rfl ?_
                                            refine lv_i2l (v := (jiushr z_16 10).toInt64) hx hb dX1_first_254 rfl ?_
                                            refine lv_bipush (v := 12) hx hb dX1_first_255 (by decide) ?_
                                            refine lv_lshl (v := jlshl ((jiushr z_16 10).toInt64) 12) hx hb dX1_first_257 rfl ?_
                                            refine lv_topl (fun z_25 ez_25 => ?_)
                                            refine lv_lstore (lv' := [(9, .long z_25), (11, .int 0), (14, .int z_16), (12, .long z_15), (0, .ref h0), (1, .int a0), (2, .long a1), (4, .int a2), (5, .int a3), (6, .int a4), (7, .int a5), (8, .int 0)]) hx hb dX1_first_258 hl (by decide) rfl (fun ls hl => ?_)
                                            refine lv_iinc (v := -1) (lv' := [(11, .int ((-1))), (9, .long z_25), (14, .int z_16), (12, .long z_15), (0, .ref h0), (1, .int a0), (2, .long a1), (4, .int a2), (5, .int a3), (6, .int a4), (7, .int a5), (8, .int 0)]) hx hb dX1_first_260 hl (k := 1) rfl (by decide) (by decide) rfl (fun ls hl => ?_)
                                            refine lv_goto (tgt := 19) hx hb dX1_first_263 (by decide) ?_
                                            refine lv_iload hx hb dX1_first_19 (lv_at hl 0 rfl) ?_
                                            refine lv_if_lt (tgt := 266) hx hb dX1_first_21 (by decide) (fun c_21bb => ?_) (fun c_21bb => ?_)
                                            · skip
                                              refine lv_aload_n hx hb dX1_first_266 rfl (lv_at hl 4 rfl) ?_
                                              refine lv_iload hx hb dX1_first_267 (lv_at hl 7 rfl) ?_
                                              refine lv_bipush (v := 12) hx hb dX1_first_269 (by decide) ?_
                                              refine lv_bipush (v := 13) hx hb dX1_first_271 (by decide) ?_
                                              refine lv_bipush (v := 15) hx hb dX1_first_273 (by decide) ?_
                                              refine cw_v (va_runV (As := [.int a2, .int 12, .int 13, .int 15]) (rest := []) ⟨hx, hb, hml, hown, hts⟩ (ctm_raise l dC dI h0 q_memory k_memory H.size v_atp v_vsAtp v_hgatp v_rights o_14.2 v_found v_wanted v_ofEntry m_memory a2 12 13 15) (cwV 4 hts gX1_first_X1_raise rfl rfl rfl (by decide +kernel) ⟨Nat.le_of_ble_eq_true rfl, Nat.le_of_ble_eq_true rfl⟩) ⟨fun a U g mk q => ⟨q.1, q.2.1, q.2.2.1, va_K.moved (u := U) (U := U.calling g mk a) (Vm.Alike.refl U.vm) q.2.2.2.1, q.2.2.2.2⟩, va_recv hK hP (ci := 1) (q0 := 0) rfl rfl, fun U hU hW => ⟨rfl, by rw [hU], by rw [hU]; exact hP, va_K.moved hW.alike hK, hD.weaken (fun _ _ _ _ => trivial)⟩⟩ rfl rfl hl.1 rfl (lv_room (Nat.le_of_ble_eq_true rfl)) dX1_first_275 ⟨Nat.zero_le _, Nat.zero_le _⟩) hA hD hP hS (fun o_26 H locs eo_26 hP hD hS => ?_)
                                              have hP : va_P (dC, dI) vwCl (wm h0 q_memory k_memory v_atp v_vsAtp v_hgatp v_rights o_26 v_found v_wanted v_ofEntry m_memory) H := hP
                                              have hD : va_D A (wm h0 q_memory k_memory v_atp v_vsAtp v_hgatp v_rights o_26 v_found v_wanted v_ofEntry m_memory) := hD
                                              refine lv_lconst (v := 0) hx hb dX1_first_278 (by decide) ?_
                                              exact W.lret (v := 0) hx hb hr (fun t ht hW => ⟨⟨_, (0, o_26, v_wanted, v_ofEntry), rfl, ⟨rfl, by subst eo_26; subst ez_25; subst ez_16; subst ez_15; subst eo_14; subst ez_13; subst ez_12; subst ez_5; subst ez_4; subst eo_3; subst ez_2; subst ez_1; first | (rw [fm_first0, if_pos c_1, if_pos c_90, if_neg c_114, if_pos c_122, if_pos c_223, if_pos c_233, if_pos c_243, if_pos c_90b, if_neg c_114b, if_pos c_122b, if_pos c_223b, if_pos c_233b, if_neg c_243b]; done) | (simp only [fm_first0, if_pos c_1, if_pos c_90, if_neg c_114, if_pos c_122, if_pos c_223, if_pos c_233, if_pos c_243, if_pos c_90b, if_neg c_114b, if_pos c_122b, if_pos c_223b, if_pos c_233b, if_neg c_243b]; done) | (rw [fm_first0, if_pos c_1, if_pos c_90, if_neg c_114, if_pos c_122, if_pos c_223, if_pos c_233, if_pos c_243, if_pos c_90b, if_neg c_114b, if_pos c_122b, if_pos c_223b, if_pos c_233b, if_neg c_243b] <;> rfl)⟩, by rw [ht]; exact hP, va_K.moved hW.alike hK, hD⟩, hS.F ht⟩) hS.2.2 dX1_first_279
                                            · skip
                                              exact absurd (by decide) c_21bb
                                  · skip
                                    refine lv_iload hx hb dX1_first_125 (lv_at hl 2 rfl) ?_
                                    refine lv_iconst (v := 1) hx hb dX1_first_127 (by decide) ?_
                                    refine lv_icmp_ne (tgt := 135) hx hb dX1_first_128 (by decide) (fun c_128 => ?_) (fun c_128 => ?_)
                                    · skip
                                      refine lv_iconst (v := 0) hx hb dX1_first_135 (by decide) ?_
                                      refine lv_istore (lv' := [(15, .int 0), (14, .int z_16), (12, .long z_15), (11, .int 0), (9, .long z_12), (0, .ref h0), (1, .int a0), (2, .long a1), (4, .int a2), (5, .int a3), (6, .int a4), (7, .int a5), (8, .int 0)]) hx hb dX1_first_136 hl (by decide) rfl (fun ls hl => ?_)
                                      refine lv_iload hx hb dX1_first_138 (lv_at hl 0 rfl) ?_
                                      refine lv_if_eq (tgt := 155) hx hb dX1_first_140 (by decide) (fun c_140 => ?_) (fun c_140 => ?_)
                                      · skip
                                        refine lv_iconst (v := 1) hx hb dX1_first_155 (by decide) ?_
                                        refine lv_goto (tgt := 160) hx hb dX1_first_156 (by decide) ?_
                                        refine lv_istore (lv' := [(16, .int 1), (15, .int 0), (14, .int z_16), (12, .long z_15), (11, .int 0), (9, .long z_12), (0, .ref h0), (1, .int a0), (2, .long a1), (4, .int a2), (5, .int a3), (6, .int a4), (7, .int a5), (8, .int 0)]) hx hb dX1_first_160 hl (by decide) rfl (fun ls hl => ?_)
                                        refine lv_iload hx hb dX1_first_162 (lv_at hl 0 rfl) ?_
                                        refine lv_if_eq (tgt := 203) hx hb dX1_first_164 (by decide) (fun c_164 => ?_) (fun c_164 => ?_)
                                        · skip
                                          exact absurd c_164 (by decide)
                                        · skip
                                          refine lv_aload_n hx hb dX1_first_167 rfl (lv_at hl 6 rfl) ?_
                                          refine lv_iload hx hb dX1_first_168 (lv_at hl 2 rfl) ?_
                                          refine lv_iload hx hb dX1_first_170 (lv_at hl 10 rfl) ?_
                                          refine lv_iload hx hb dX1_first_172 (lv_at hl 9 rfl) ?_
                                          refine lv_iload hx hb dX1_first_174 (lv_at hl 11 rfl) ?_
                                          refine cr_i (va_runV (As := [.int z_16, .int a3, .int a2, .int a4]) (rest := []) ⟨hx, hb, hml, hown, hts⟩ (ctm_userFits l dC dI h0 q_memory k_memory H.size v_atp v_vsAtp v_hgatp v_rights o_14.2 v_found v_wanted v_ofEntry m_memory z_16 a3 a2 a4) (cwV 4 hts gX1_first_X1_userFits rfl rfl rfl (by decide +kernel) ⟨Nat.le_of_ble_eq_true rfl, Nat.le_of_ble_eq_true rfl⟩) ⟨fun a U g mk q => ⟨q.1, q.2.1, q.2.2.1, va_K.moved (u := U) (U := U.calling g mk a) (Vm.Alike.refl U.vm) q.2.2.2.1, q.2.2.2.2⟩, va_recv hK hP (ci := 1) (q0 := 0) rfl rfl, fun U hU hW => ⟨rfl, by rw [hU], by rw [hU]; exact hP, va_K.moved hW.alike hK, hD.weaken (fun _ _ _ _ => trivial)⟩⟩ rfl rfl hl.1 rfl (lv_room (Nat.le_of_ble_eq_true rfl)) dX1_first_176 ⟨Nat.zero_le _, Nat.zero_le _⟩) hA hD hP hS (fun H locs hP hS => ?_)
                                          refine lv_if_eq (tgt := 203) hx hb dX1_first_179 (by decide) (fun c_179 => ?_) (fun c_179 => ?_)
                                          · skip
                                            refine lv_iconst (v := 0) hx hb dX1_first_203 (by decide) ?_
                                            refine lv_istore (lv' := [(11, .int 0), (16, .int 1), (15, .int 0), (14, .int z_16), (12, .long z_15), (9, .long z_12), (0, .ref h0), (1, .int a0), (2, .long a1), (4, .int a2), (5, .int a3), (6, .int a4), (7, .int a5), (8, .int 0)]) hx hb dX1_first_204 hl (by decide) rfl (fun ls hl => ?_)
                                            refine lv_goto (tgt := 249) hx hb dX1_first_206 (by decide) ?_
                                            refine lv_iload hx hb dX1_first_249 (lv_at hl 3 rfl) ?_
                                            refine lv_bipush (v := 10) hx hb dX1_first_251 (by decide) ?_
                                            refine lv_iushr (v := jiushr z_16 10) hx hb dX1_first_253 rfl ?_
                                            refine lv_i2l (v := (jiushr z_16 10).toInt64) hx hb dX1_first_254 rfl ?_
                                            refine lv_bipush (v := 12) hx hb dX1_first_255 (by decide) ?_
                                            refine lv_lshl (v := jlshl ((jiushr z_16 10).toInt64) 12) hx hb dX1_first_257 rfl ?_
                                            refine lv_topl (fun z_27 ez_27 => ?_)
                                            refine lv_lstore (lv' := [(9, .long z_27), (11, .int 0), (16, .int 1), (15, .int 0), (14, .int z_16), (12, .long z_15), (0, .ref h0), (1, .int a0), (2, .long a1), (4, .int a2), (5, .int a3), (6, .int a4), (7, .int a5), (8, .int 0)]) hx hb dX1_first_258 hl (by decide) rfl (fun ls hl => ?_)
                                            refine lv_iinc (v := -1) (lv' := [(11, .int ((-1))), (9, .long z_27), (16, .int 1), (15, .int 0), (14, .int z_16), (12, .long z_15), (0, .ref h0), (1, .int a0), (2, .long a1), (4, .int a2), (5, .int a3), (6, .int a4), (7, .int a5), (8, .int 0)]) hx hb dX1_first_260 hl (k := 1) rfl (by decide) (by decide) rfl (fun ls hl => ?_)
                                            refine lv_goto (tgt := 19) hx hb dX1_first_263 (by decide) ?_
                                            refine lv_iload hx hb dX1_first_19 (lv_at hl 0 rfl) ?_
                                            refine lv_if_lt (tgt := 266) hx hb dX1_first_21 (by decide) (fun c_21bb => ?_) (fun c_21bb => ?_)
                                            · skip
                                              refine lv_aload_n hx hb dX1_first_266 rfl (lv_at hl 6 rfl) ?_
                                              refine lv_iload hx hb dX1_first_267 (lv_at hl 9 rfl) ?_
                                              refine lv_bipush (v := 12) hx hb dX1_first_269 (by decide) ?_
                                              refine lv_bipush (v := 13) hx hb dX1_first_271 (by decide) ?_
                                              refine lv_bipush (v := 15) hx hb dX1_first_273 (by decide) ?_
                                              refine cw_v (va_runV (As := [.int a2, .int 12, .int 13, .int 15]) (rest := []) ⟨hx, hb, hml, hown, hts⟩ (ctm_raise l dC dI h0 q_memory k_memory H.size v_atp v_vsAtp v_hgatp v_rights o_14.2 v_found v_wanted v_ofEntry m_memory a2 12 13 15) (cwV 4 hts gX1_first_X1_raise rfl rfl rfl (by decide +kernel) ⟨Nat.le_of_ble_eq_true rfl, Nat.le_of_ble_eq_true rfl⟩) ⟨fun a U g mk q => ⟨q.1, q.2.1, q.2.2.1, va_K.moved (u := U) (U := U.calling g mk a) (Vm.Alike.refl U.vm) q.2.2.2.1, q.2.2.2.2⟩, va_recv hK hP (ci := 1) (q0 := 0) rfl rfl, fun U hU hW => ⟨rfl, by rw [hU], by rw [hU]; exact hP, va_K.moved hW.alike hK, hD.weaken (fun _ _ _ _ => trivial)⟩⟩ rfl rfl hl.1 rfl (lv_room (Nat.le_of_ble_eq_true rfl)) dX1_first_275 ⟨Nat.zero_le _, Nat.zero_le _⟩) hA hD hP hS (fun o_28 H locs eo_28 hP hD hS => ?_)
                                              have hP : va_P (dC, dI) vwCl (wm h0 q_memory k_memory v_atp v_vsAtp v_hgatp v_rights o_28 v_found v_wanted v_ofEntry m_memory) H := hP
                                              have hD : va_D A (wm h0 q_memory k_memory v_atp v_vsAtp v_hgatp v_rights o_28 v_found v_wanted v_ofEntry m_memory) := hD
                                              refine lv_lconst (v := 0) hx hb dX1_first_278 (by decide) ?_
                                              exact W.lret (v := 0) hx hb hr (fun t ht hW => ⟨⟨_, (0, o_28, v_wanted, v_ofEntry), rfl, ⟨rfl, by subst eo_28; subst ez_27; subst ez_16; subst ez_15; subst eo_14; subst ez_13; subst ez_12; subst ez_5; subst ez_4; subst eo_3; subst ez_2; subst ez_1; first | (rw [fm_first0, if_pos c_1, if_pos c_90, if_neg c_114, if_pos c_122, if_pos c_223, if_pos c_233, if_pos c_243, if_pos c_90b, if_neg c_114b, if_neg c_122b, if_pos c_179]; done) | (simp only [fm_first0, if_pos c_1, if_pos c_90, if_neg c_114, if_pos c_122, if_pos c_223, if_pos c_233, if_pos c_243, if_pos c_90b, if_neg c_114b, if_neg c_122b, if_pos c_179]; done) | (rw [fm_first0, if_pos c_1, if_pos c_90, if_neg c_114, if_pos c_122, if_pos c_223, if_pos c_233, if_pos c_243, if_pos c_90b, if_neg c_114b, if_neg c_122b, if_pos c_179] <;> rfl)⟩, by rw [ht]; exact hP, va_K.moved hW.alike hK, hD⟩, hS.F ht⟩) hS.2.2 dX1_first_279
                                            · skip
                                              exact absurd (by decide) c_21bb
                                          · skip
                                            refine lv_iload hx hb dX1_first_182 (lv_at hl 2 rfl) ?_
                                            refine lv_iload hx hb dX1_first_184 (lv_at hl 9 rfl) ?_
                                            refine lv_iload hx hb dX1_first_186 (lv_at hl 12 rfl) ?_
                                            refine cs_i (va_runS (As := [.int z_16, .int a2, .int a5]) (rest := []) ⟨hx, hb, hml, hown, hts⟩ (ctm_allows l H.size z_16 a2 a5) (va_cwS 3 hts gX1_first_X1_allows rfl rfl rfl (by decide +kernel) ⟨Nat.le_of_ble_eq_true rfl, Nat.le_of_ble_eq_true rfl⟩) ⟨fun a U g mk q => q, fun U hU hW => ⟨rfl, congrArg Array.size hU⟩⟩ rfl rfl hl.1 rfl (lv_room (Nat.le_of_ble_eq_true rfl)) dX1_first_188 ⟨Nat.zero_le _, Nat.zero_le _⟩) hA hP hS (fun H locs hP hS => ?_)
                                            refine lv_if_eq (tgt := 203) hx hb dX1_first_191 (by decide) (fun c_191 => ?_) (fun c_191 => ?_)
                                            · skip
                                              refine lv_iconst (v := 0) hx hb dX1_first_203 (by decide) ?_
                                              refine lv_istore (lv' := [(11, .int 0), (16, .int 1), (15, .int 0), (14, .int z_16), (12, .long z_15), (9, .long z_12), (0, .ref h0), (1, .int a0), (2, .long a1), (4, .int a2), (5, .int a3), (6, .int a4), (7, .int a5), (8, .int 0)]) hx hb dX1_first_204 hl (by decide) rfl (fun ls hl => ?_)
                                              refine lv_goto (tgt := 249) hx hb dX1_first_206 (by decide) ?_
                                              refine lv_iload hx hb dX1_first_249 (lv_at hl 3 rfl) ?_
                                              refine lv_bipush (v := 10) hx hb dX1_first_251 (by decide) ?_
                                              refine lv_iushr (v := jiushr z_16 10) hx hb dX1_first_253 rfl ?_
                                              refine lv_i2l (v := (jiushr z_16 10).toInt64) hx hb dX1_first_254 rfl ?_
                                              refine lv_bipush (v := 12) hx hb dX1_first_255 (by decide) ?_
                                              refine lv_lshl (v := jlshl ((jiushr z_16 10).toInt64) 12) hx hb dX1_first_257 rfl ?_
                                              refine lv_topl (fun z_29 ez_29 => ?_)
                                              refine lv_lstore (lv' := [(9, .long z_29), (11, .int 0), (16, .int 1), (15, .int 0), (14, .int z_16), (12, .long z_15), (0, .ref h0), (1, .int a0), (2, .long a1), (4, .int a2), (5, .int a3), (6, .int a4), (7, .int a5), (8, .int 0)]) hx hb dX1_first_258 hl (by decide) rfl (fun ls hl => ?_)
                                              refine lv_iinc (v := -1) (lv' := [(11, .int ((-1))), (9, .long z_29), (16, .int 1), (15, .int 0), (14, .int z_16), (12, .long z_15), (0, .ref h0), (1, .int a0), (2, .long a1), (4, .int a2), (5, .int a3), (6, .int a4), (7, .int a5), (8, .int 0)]) hx hb dX1_first_260 hl (k := 1) rfl (by decide) (by decide) rfl (fun ls hl => ?_)
                                              refine lv_goto (tgt := 19) hx hb dX1_first_263 (by decide) ?_
                                              refine lv_iload hx hb dX1_first_19 (lv_at hl 0 rfl) ?_
                                              refine lv_if_lt (tgt := 266) hx hb dX1_first_21 (by decide) (fun c_21bb => ?_) (fun c_21bb => ?_)
                                              · skip
                                                refine lv_aload_n hx hb dX1_first_266 rfl (lv_at hl 6 rfl) ?_
                                                refine lv_iload hx hb dX1_first_267 (lv_at hl 9 rfl) ?_
                                                refine lv_bipush (v := 12) hx hb dX1_first_269 (by decide) ?_
                                                refine lv_bipush (v := 13) hx hb dX1_first_271 (by decide) ?_
                                                refine lv_bipush (v := 15) hx hb dX1_first_273 (by decide) ?_
                                                refine cw_v (va_runV (As := [.int a2, .int 12, .int 13, .int 15]) (rest := []) ⟨hx, hb, hml, hown, hts⟩ (ctm_raise l dC dI h0 q_memory k_memory H.size v_atp v_vsAtp v_hgatp v_rights o_14.2 v_found v_wanted v_ofEntry m_memory a2 12 13 15) (cwV 4 hts gX1_first_X1_raise rfl rfl rfl (by decide +kernel) ⟨Nat.le_of_ble_eq_true rfl, Nat.le_of_ble_eq_true rfl⟩) ⟨fun a U g mk q => ⟨q.1, q.2.1, q.2.2.1, va_K.moved (u := U) (U := U.calling g mk a) (Vm.Alike.refl U.vm) q.2.2.2.1, q.2.2.2.2⟩, va_recv hK hP (ci := 1) (q0 := 0) rfl rfl, fun U hU hW => ⟨rfl, by rw [hU], by rw [hU]; exact hP, va_K.moved hW.alike hK, hD.weaken (fun _ _ _ _ => trivial)⟩⟩ rfl rfl hl.1 rfl (lv_room (Nat.le_of_ble_eq_true rfl)) dX1_first_275 ⟨Nat.zero_le _, Nat.zero_le _⟩) hA hD hP hS (fun o_30 H locs eo_30 hP hD hS => ?_)
                                                have hP : va_P (dC, dI) vwCl (wm h0 q_memory k_memory v_atp v_vsAtp v_hgatp v_rights o_30 v_found v_wanted v_ofEntry m_memory) H := hP
                                                have hD : va_D A (wm h0 q_memory k_memory v_atp v_vsAtp v_hgatp v_rights o_30 v_found v_wanted v_ofEntry m_memory) := hD
                                                refine lv_lconst (v := 0) hx hb dX1_first_278 (by decide) ?_
                                                exact W.lret (v := 0) hx hb hr (fun t ht hW => ⟨⟨_, (0, o_30, v_wanted, v_ofEntry), rfl, ⟨rfl, by subst eo_30; subst ez_29; subst ez_16; subst ez_15; subst eo_14; subst ez_13; subst ez_12; subst ez_5; subst ez_4; subst eo_3; subst ez_2; subst ez_1; first | (rw [fm_first0, if_pos c_1, if_pos c_90, if_neg c_114, if_pos c_122, if_pos c_223, if_pos c_233, if_pos c_243, if_pos c_90b, if_neg c_114b, if_neg c_122b, if_neg c_179, if_pos c_191]; done) | (simp only [fm_first0, if_pos c_1, if_pos c_90, if_neg c_114, if_pos c_122, if_pos c_223, if_pos c_233, if_pos c_243, if_pos c_90b, if_neg c_114b, if_neg c_122b, if_neg c_179, if_pos c_191]; done) | (rw [fm_first0, if_pos c_1, if_pos c_90, if_neg c_114, if_pos c_122, if_pos c_223, if_pos c_233, if_pos c_243, if_pos c_90b, if_neg c_114b, if_neg c_122b, if_neg c_179, if_pos c_191] <;> rfl)⟩, by rw [ht]; exact hP, va_K.moved hW.alike hK, hD⟩, hS.F ht⟩) hS.2.2 dX1_first_279
                                              · skip
                                                exact absurd (by decide) c_21bb
                                            · skip
                                              refine lv_iload hx hb dX1_first_194 (lv_at hl 2 rfl) ?_
                                              refine lv_iload hx hb dX1_first_196 (lv_at hl 1 rfl) ?_
                                              refine lv_lload_n hx hb dX1_first_198 rfl (lv_at hl 8 rfl) ?_
                                              refine cs_l (va_runS (As := [.int z_16, .int 0, .long a1]) (rest := []) ⟨hx, hb, hml, hown, hts⟩ (ctm_result l H.size z_16 0 a1) (va_cwS 3 hts gX1_first_X1_result rfl rfl rfl (by decide +kernel) ⟨Nat.le_of_ble_eq_true rfl, Nat.le_of_ble_eq_true rfl⟩) ⟨fun a U g mk q => q, fun U hU hW => ⟨rfl, congrArg Array.size hU⟩⟩ rfl rfl hl.1 rfl (lv_room (Nat.le_of_ble_eq_true rfl)) dX1_first_199 ⟨Nat.zero_le _, Nat.zero_le _⟩) hA hP hS (fun H locs hP hS => ?_)
                                              exact W.lret (v := (fm_result z_16 0 a1)) hx hb hr (fun t ht hW => ⟨⟨_, ((fm_result z_16 0 a1), o_14.2, v_wanted, v_ofEntry), rfl, ⟨rfl, by subst ez_16; subst ez_15; subst eo_14; subst ez_13; subst ez_12; subst ez_5; subst ez_4; subst eo_3; subst ez_2; subst ez_1; first | (rw [fm_first0, if_pos c_1, if_pos c_90, if_neg c_114, if_pos c_122, if_pos c_223, if_pos c_233, if_pos c_243, if_pos c_90b, if_neg c_114b, if_neg c_122b, if_neg c_179, if_neg c_191]; done) | (simp only [fm_first0, if_pos c_1, if_pos c_90, if_neg c_114, if_pos c_122, if_pos c_223, if_pos c_233, if_pos c_243, if_pos c_90b, if_neg c_114b, if_neg c_122b, if_neg c_179, if_neg c_191]; done) | (rw [fm_first0, if_pos c_1, if_pos c_90, if_neg c_114, if_pos c_122, if_pos c_223, if_pos c_233, if_pos c_243, if_pos c_90b, if_neg c_114b, if_neg c_122b, if_neg c_179, if_neg c_191] <;> rfl)⟩, by rw [ht]; exact hP, va_K.moved hW.alike hK, hD⟩, hS.F ht⟩) hS.2.2 dX1_first_202
                                      · skip
                                        exact absurd (by decide) c_140
                                    · skip
                                      exact absurd c_128 (by decide)
                              · skip
                                refine lv_lconst (v := 0) hx hb dX1_first_93 (by decide) ?_
                                exact W.lret (v := 0) hx hb hr (fun t ht hW => ⟨⟨_, (0, o_14.2, v_wanted, v_ofEntry), rfl, ⟨rfl, by subst ez_15; subst eo_14; subst ez_13; subst ez_12; subst ez_5; subst ez_4; subst eo_3; subst ez_2; subst ez_1; first | (rw [fm_first0, if_pos c_1, if_pos c_90, if_neg c_114, if_pos c_122, if_pos c_223, if_pos c_233, if_pos c_243, if_neg c_90b]; done) | (simp only [fm_first0, if_pos c_1, if_pos c_90, if_neg c_114, if_pos c_122, if_pos c_223, if_pos c_233, if_pos c_243, if_neg c_90b]; done) | (rw [fm_first0, if_pos c_1, if_pos c_90, if_neg c_114, if_pos c_122, if_pos c_223, if_pos c_233, if_pos c_243, if_neg c_90b] <;> rfl)⟩, by rw [ht]; exact hP, va_K.moved hW.alike hK, hD⟩, hS.F ht⟩) hS.2.2 dX1_first_94
                            · skip
                              exact absurd (by decide) c_60b
                          · skip
                            exact absurd c_32b (by decide)
                      · skip
                        refine lv_iconst (v := 0) hx hb dX1_first_246 (by decide) ?_
                        refine lv_istore (lv' := [(11, .int 0), (14, .int z_5), (12, .long z_4), (9, .long z_1), (0, .ref h0), (1, .int a0), (2, .long a1), (4, .int a2), (5, .int a3), (6, .int a4), (7, .int a5), (8, .int 0)]) hx hb dX1_first_247 hl (by decide) rfl (fun ls hl => ?_)
                        refine lv_iload hx hb dX1_first_249 (lv_at hl 1 rfl) ?_
                        refine lv_bipush (v := 10) hx hb dX1_first_251 (by decide) ?_
                        refine lv_iushr (v := jiushr z_5 10) hx hb dX1_first_253 rfl ?_
                        refine lv_i2l (v := (jiushr z_5 10).toInt64) hx hb dX1_first_254 rfl ?_
                        refine lv_bipush (v := 12) hx hb dX1_first_255 (by decide) ?_
                        refine lv_lshl (v := jlshl ((jiushr z_5 10).toInt64) 12) hx hb dX1_first_257 rfl ?_
                        refine lv_topl (fun z_31 ez_31 => ?_)
                        refine lv_lstore (lv' := [(9, .long z_31), (11, .int 0), (14, .int z_5), (12, .long z_4), (0, .ref h0), (1, .int a0), (2, .long a1), (4, .int a2), (5, .int a3), (6, .int a4), (7, .int a5), (8, .int 0)]) hx hb dX1_first_258 hl (by decide) rfl (fun ls hl => ?_)
                        refine lv_iinc (v := -1) (lv' := [(11, .int ((-1))), (9, .long z_31), (14, .int z_5), (12, .long z_4), (0, .ref h0), (1, .int a0), (2, .long a1), (4, .int a2), (5, .int a3), (6, .int a4), (7, .int a5), (8, .int 0)]) hx hb dX1_first_260 hl (k := 1) rfl (by decide) (by decide) rfl (fun ls hl => ?_)
                        refine lv_goto (tgt := 19) hx hb dX1_first_263 (by decide) ?_
                        refine lv_iload hx hb dX1_first_19 (lv_at hl 0 rfl) ?_
                        refine lv_if_lt (tgt := 266) hx hb dX1_first_21 (by decide) (fun c_21b => ?_) (fun c_21b => ?_)
                        · skip
                          refine lv_aload_n hx hb dX1_first_266 rfl (lv_at hl 4 rfl) ?_
                          refine lv_iload hx hb dX1_first_267 (lv_at hl 7 rfl) ?_
                          refine lv_bipush (v := 12) hx hb dX1_first_269 (by decide) ?_
                          refine lv_bipush (v := 13) hx hb dX1_first_271 (by decide) ?_
                          refine lv_bipush (v := 15) hx hb dX1_first_273 (by decide) ?_
                          refine cw_v (va_runV (As := [.int a2, .int 12, .int 13, .int 15]) (rest := []) ⟨hx, hb, hml, hown, hts⟩ (ctm_raise l dC dI h0 q_memory k_memory H.size v_atp v_vsAtp v_hgatp v_rights o_3.2 v_found v_wanted v_ofEntry m_memory a2 12 13 15) (cwV 4 hts gX1_first_X1_raise rfl rfl rfl (by decide +kernel) ⟨Nat.le_of_ble_eq_true rfl, Nat.le_of_ble_eq_true rfl⟩) ⟨fun a U g mk q => ⟨q.1, q.2.1, q.2.2.1, va_K.moved (u := U) (U := U.calling g mk a) (Vm.Alike.refl U.vm) q.2.2.2.1, q.2.2.2.2⟩, va_recv hK hP (ci := 1) (q0 := 0) rfl rfl, fun U hU hW => ⟨rfl, by rw [hU], by rw [hU]; exact hP, va_K.moved hW.alike hK, hD.weaken (fun _ _ _ _ => trivial)⟩⟩ rfl rfl hl.1 rfl (lv_room (Nat.le_of_ble_eq_true rfl)) dX1_first_275 ⟨Nat.zero_le _, Nat.zero_le _⟩) hA hD hP hS (fun o_32 H locs eo_32 hP hD hS => ?_)
                          have hP : va_P (dC, dI) vwCl (wm h0 q_memory k_memory v_atp v_vsAtp v_hgatp v_rights o_32 v_found v_wanted v_ofEntry m_memory) H := hP
                          have hD : va_D A (wm h0 q_memory k_memory v_atp v_vsAtp v_hgatp v_rights o_32 v_found v_wanted v_ofEntry m_memory) := hD
                          refine lv_lconst (v := 0) hx hb dX1_first_278 (by decide) ?_
                          exact W.lret (v := 0) hx hb hr (fun t ht hW => ⟨⟨_, (0, o_32, v_wanted, v_ofEntry), rfl, ⟨rfl, by subst eo_32; subst ez_31; subst ez_5; subst ez_4; subst eo_3; subst ez_2; subst ez_1; first | (rw [fm_first0, if_pos c_1, if_pos c_90, if_neg c_114, if_pos c_122, if_pos c_223, if_pos c_233, if_neg c_243]; done) | (simp only [fm_first0, if_pos c_1, if_pos c_90, if_neg c_114, if_pos c_122, if_pos c_223, if_pos c_233, if_neg c_243]; done) | (rw [fm_first0, if_pos c_1, if_pos c_90, if_neg c_114, if_pos c_122, if_pos c_223, if_pos c_233, if_neg c_243] <;> rfl)⟩, by rw [ht]; exact hP, va_K.moved hW.alike hK, hD⟩, hS.F ht⟩) hS.2.2 dX1_first_279
                        · skip
                          exact absurd (by decide) c_21b
              · skip
                refine lv_iload hx hb dX1_first_125 (lv_at hl 2 rfl) ?_
                refine lv_iconst (v := 1) hx hb dX1_first_127 (by decide) ?_
                refine lv_icmp_ne (tgt := 135) hx hb dX1_first_128 (by decide) (fun c_128 => ?_) (fun c_128 => ?_)
                · skip
                  exact absurd (by decide) c_128
                · skip
                  refine lv_iconst (v := 1) hx hb dX1_first_131 (by decide) ?_
                  refine lv_goto (tgt := 136) hx hb dX1_first_132 (by decide) ?_
                  refine lv_istore (lv' := [(15, .int 1), (14, .int z_5), (12, .long z_4), (11, .int 1), (9, .long z_1), (0, .ref h0), (1, .int a0), (2, .long a1), (4, .int a2), (5, .int a3), (6, .int a4), (7, .int a5), (8, .int 0)]) hx hb dX1_first_136 hl (by decide) rfl (fun ls hl => ?_)
                  refine lv_iload hx hb dX1_first_138 (lv_at hl 0 rfl) ?_
                  refine lv_if_eq (tgt := 155) hx hb dX1_first_140 (by decide) (fun c_140 => ?_) (fun c_140 => ?_)
                  · skip
                    exact absurd c_140 (by decide)
                  · skip
                    refine lv_iload hx hb dX1_first_143 (lv_at hl 1 rfl) ?_
                    refine lv_bipush (v := 10) hx hb dX1_first_145 (by decide) ?_
                    refine lv_ishr hx hb dX1_first_147 ?_
                    refine lv_sipush (v := 1023) hx hb dX1_first_148 (by decide) ?_
                    refine lv_iand hx hb dX1_first_151 ?_
                    refine lj_i (j := 160) (z0 := if ((z_5 >>> (10 &&& 31)) &&& 1023) = 0 then 1 else 0) (rest := []) hP hS (fun H locs hP hS z_33 ez_33 => ?_) (fun J160_152 => ?_)
                    · skip
                      have oz_33 : z_33 = 0 ∨ z_33 = 1 := by rw [ez_33]; exact ite01 (Or.inr rfl) (Or.inl rfl)
                      refine lv_istore (lv' := [(16, .int z_33), (15, .int 1), (14, .int z_5), (12, .long z_4), (11, .int 1), (9, .long z_1), (0, .ref h0), (1, .int a0), (2, .long a1), (4, .int a2), (5, .int a3), (6, .int a4), (7, .int a5), (8, .int 0)]) hx hb dX1_first_160 hl (by decide) rfl (fun ls hl => ?_)
                      refine lv_iload hx hb dX1_first_162 (lv_at hl 0 rfl) ?_
                      refine lv_if_eq (tgt := 203) hx hb dX1_first_164 (by decide) (fun c_164 => ?_) (fun c_164 => ?_)
                      · skip
                        refine lv_iconst (v := 0) hx hb dX1_first_203 (by decide) ?_
                        refine lv_istore (lv' := [(11, .int 0), (16, .int z_33), (15, .int 1), (14, .int z_5), (12, .long z_4), (9, .long z_1), (0, .ref h0), (1, .int a0), (2, .long a1), (4, .int a2), (5, .int a3), (6, .int a4), (7, .int a5), (8, .int 0)]) hx hb dX1_first_204 hl (by decide) rfl (fun ls hl => ?_)
                        refine lv_goto (tgt := 249) hx hb dX1_first_206 (by decide) ?_
                        refine lv_iload hx hb dX1_first_249 (lv_at hl 3 rfl) ?_
                        refine lv_bipush (v := 10) hx hb dX1_first_251 (by decide) ?_
                        refine lv_iushr (v := jiushr z_5 10) hx hb dX1_first_253 rfl ?_
                        refine lv_i2l (v := (jiushr z_5 10).toInt64) hx hb dX1_first_254 rfl ?_
                        refine lv_bipush (v := 12) hx hb dX1_first_255 (by decide) ?_
                        refine lv_lshl (v := jlshl ((jiushr z_5 10).toInt64) 12) hx hb dX1_first_257 rfl ?_
                        refine lv_topl (fun z_34 ez_34 => ?_)
                        refine lv_lstore (lv' := [(9, .long z_34), (11, .int 0), (16, .int z_33), (15, .int 1), (14, .int z_5), (12, .long z_4), (0, .ref h0), (1, .int a0), (2, .long a1), (4, .int a2), (5, .int a3), (6, .int a4), (7, .int a5), (8, .int 0)]) hx hb dX1_first_258 hl (by decide) rfl (fun ls hl => ?_)
                        refine lv_iinc (v := -1) (lv' := [(11, .int ((-1))), (9, .long z_34), (16, .int z_33), (15, .int 1), (14, .int z_5), (12, .long z_4), (0, .ref h0), (1, .int a0), (2, .long a1), (4, .int a2), (5, .int a3), (6, .int a4), (7, .int a5), (8, .int 0)]) hx hb dX1_first_260 hl (k := 1) rfl (by decide) (by decide) rfl (fun ls hl => ?_)
                        refine lv_goto (tgt := 19) hx hb dX1_first_263 (by decide) ?_
                        refine lv_iload hx hb dX1_first_19 (lv_at hl 0 rfl) ?_
                        refine lv_if_lt (tgt := 266) hx hb dX1_first_21 (by decide) (fun c_21b => ?_) (fun c_21b => ?_)
                        · skip
                          refine lv_aload_n hx hb dX1_first_266 rfl (lv_at hl 6 rfl) ?_
                          refine lv_iload hx hb dX1_first_267 (lv_at hl 9 rfl) ?_
                          refine lv_bipush (v := 12) hx hb dX1_first_269 (by decide) ?_
                          refine lv_bipush (v := 13) hx hb dX1_first_271 (by decide) ?_
                          refine lv_bipush (v := 15) hx hb dX1_first_273 (by decide) ?_
                          refine cw_v (va_runV (As := [.int a2, .int 12, .int 13, .int 15]) (rest := []) ⟨hx, hb, hml, hown, hts⟩ (ctm_raise l dC dI h0 q_memory k_memory H.size v_atp v_vsAtp v_hgatp v_rights o_3.2 v_found v_wanted v_ofEntry m_memory a2 12 13 15) (cwV 4 hts gX1_first_X1_raise rfl rfl rfl (by decide +kernel) ⟨Nat.le_of_ble_eq_true rfl, Nat.le_of_ble_eq_true rfl⟩) ⟨fun a U g mk q => ⟨q.1, q.2.1, q.2.2.1, va_K.moved (u := U) (U := U.calling g mk a) (Vm.Alike.refl U.vm) q.2.2.2.1, q.2.2.2.2⟩, va_recv hK hP (ci := 1) (q0 := 0) rfl rfl, fun U hU hW => ⟨rfl, by rw [hU], by rw [hU]; exact hP, va_K.moved hW.alike hK, hD.weaken (fun _ _ _ _ => trivial)⟩⟩ rfl rfl hl.1 rfl (lv_room (Nat.le_of_ble_eq_true rfl)) dX1_first_275 ⟨Nat.zero_le _, Nat.zero_le _⟩) hA hD hP hS (fun o_35 H locs eo_35 hP hD hS => ?_)
                          have hP : va_P (dC, dI) vwCl (wm h0 q_memory k_memory v_atp v_vsAtp v_hgatp v_rights o_35 v_found v_wanted v_ofEntry m_memory) H := hP
                          have hD : va_D A (wm h0 q_memory k_memory v_atp v_vsAtp v_hgatp v_rights o_35 v_found v_wanted v_ofEntry m_memory) := hD
                          refine lv_lconst (v := 0) hx hb dX1_first_278 (by decide) ?_
                          exact W.lret (v := 0) hx hb hr (fun t ht hW => ⟨⟨_, (0, o_35, v_wanted, v_ofEntry), rfl, ⟨rfl, by subst eo_35; subst ez_34; subst ez_33; subst ez_5; subst ez_4; subst eo_3; subst ez_2; subst ez_1; first | (rw [fm_first0, if_pos c_1, if_pos c_90, if_neg c_114, if_neg c_122, if_pos c_164]; done) | (simp only [fm_first0, if_pos c_1, if_pos c_90, if_neg c_114, if_neg c_122, if_pos c_164]; done) | (rw [fm_first0, if_pos c_1, if_pos c_90, if_neg c_114, if_neg c_122, if_pos c_164] <;> rfl)⟩, by rw [ht]; exact hP, va_K.moved hW.alike hK, hD⟩, hS.F ht⟩) hS.2.2 dX1_first_279
                        · skip
                          exact absurd (by decide) c_21b
                      · skip
                        refine lv_aload_n hx hb dX1_first_167 rfl (lv_at hl 6 rfl) ?_
                        refine lv_iload hx hb dX1_first_168 (lv_at hl 2 rfl) ?_
                        refine lv_iload hx hb dX1_first_170 (lv_at hl 10 rfl) ?_
                        refine lv_iload hx hb dX1_first_172 (lv_at hl 9 rfl) ?_
                        refine lv_iload hx hb dX1_first_174 (lv_at hl 11 rfl) ?_
                        refine cr_i (va_runV (As := [.int z_5, .int a3, .int a2, .int a4]) (rest := []) ⟨hx, hb, hml, hown, hts⟩ (ctm_userFits l dC dI h0 q_memory k_memory H.size v_atp v_vsAtp v_hgatp v_rights o_3.2 v_found v_wanted v_ofEntry m_memory z_5 a3 a2 a4) (cwV 4 hts gX1_first_X1_userFits rfl rfl rfl (by decide +kernel) ⟨Nat.le_of_ble_eq_true rfl, Nat.le_of_ble_eq_true rfl⟩) ⟨fun a U g mk q => ⟨q.1, q.2.1, q.2.2.1, va_K.moved (u := U) (U := U.calling g mk a) (Vm.Alike.refl U.vm) q.2.2.2.1, q.2.2.2.2⟩, va_recv hK hP (ci := 1) (q0 := 0) rfl rfl, fun U hU hW => ⟨rfl, by rw [hU], by rw [hU]; exact hP, va_K.moved hW.alike hK, hD.weaken (fun _ _ _ _ => trivial)⟩⟩ rfl rfl hl.1 rfl (lv_room (Nat.le_of_ble_eq_true rfl)) dX1_first_176 ⟨Nat.zero_le _, Nat.zero_le _⟩) hA hD hP hS (fun H locs hP hS => ?_)
                        refine lv_if_eq (tgt := 203) hx hb dX1_first_179 (by decide) (fun c_179 => ?_) (fun c_179 => ?_)
                        · skip
                          refine lv_iconst (v := 0) hx hb dX1_first_203 (by decide) ?_
                          refine lv_istore (lv' := [(11, .int 0), (16, .int z_33), (15, .int 1), (14, .int z_5), (12, .long z_4), (9, .long z_1), (0, .ref h0), (1, .int a0), (2, .long a1), (4, .int a2), (5, .int a3), (6, .int a4), (7, .int a5), (8, .int 0)]) hx hb dX1_first_204 hl (by decide) rfl (fun ls hl => ?_)
                          refine lv_goto (tgt := 249) hx hb dX1_first_206 (by decide) ?_
                          refine lv_iload hx hb dX1_first_249 (lv_at hl 3 rfl) ?_
                          refine lv_bipush (v := 10) hx hb dX1_first_251 (by decide) ?_
                          refine lv_iushr (v := jiushr z_5 10) hx hb dX1_first_253 rfl ?_
                          refine lv_i2l (v := (jiushr z_5 10).toInt64) hx hb dX1_first_254 rfl ?_
                          refine lv_bipush (v := 12) hx hb dX1_first_255 (by decide) ?_
                          refine lv_lshl (v := jlshl ((jiushr z_5 10).toInt64) 12) hx hb dX1_first_257 rfl ?_
                          refine lv_topl (fun z_36 ez_36 => ?_)
                          refine lv_lstore (lv' := [(9, .long z_36), (11, .int 0), (16, .int z_33), (15, .int 1), (14, .int z_5), (12, .long z_4), (0, .ref h0), (1, .int a0), (2, .long a1), (4, .int a2), (5, .int a3), (6, .int a4), (7, .int a5), (8, .int 0)]) hx hb dX1_first_258 hl (by decide) rfl (fun ls hl => ?_)
                          refine lv_iinc (v := -1) (lv' := [(11, .int ((-1))), (9, .long z_36), (16, .int z_33), (15, .int 1), (14, .int z_5), (12, .long z_4), (0, .ref h0), (1, .int a0), (2, .long a1), (4, .int a2), (5, .int a3), (6, .int a4), (7, .int a5), (8, .int 0)]) hx hb dX1_first_260 hl (k := 1) rfl (by decide) (by decide) rfl (fun ls hl => ?_)
                          refine lv_goto (tgt := 19) hx hb dX1_first_263 (by decide) ?_
                          refine lv_iload hx hb dX1_first_19 (lv_at hl 0 rfl) ?_
                          refine lv_if_lt (tgt := 266) hx hb dX1_first_21 (by decide) (fun c_21b => ?_) (fun c_21b => ?_)
                          · skip
                            refine lv_aload_n hx hb dX1_first_266 rfl (lv_at hl 6 rfl) ?_
                            refine lv_iload hx hb dX1_first_267 (lv_at hl 9 rfl) ?_
                            refine lv_bipush (v := 12) hx hb dX1_first_269 (by decide) ?_
                            refine lv_bipush (v := 13) hx hb dX1_first_271 (by decide) ?_
                            refine lv_bipush (v := 15) hx hb dX1_first_273 (by decide) ?_
                            refine cw_v (va_runV (As := [.int a2, .int 12, .int 13, .int 15]) (rest := []) ⟨hx, hb, hml, hown, hts⟩ (ctm_raise l dC dI h0 q_memory k_memory H.size v_atp v_vsAtp v_hgatp v_rights o_3.2 v_found v_wanted v_ofEntry m_memory a2 12 13 15) (cwV 4 hts gX1_first_X1_raise rfl rfl rfl (by decide +kernel) ⟨Nat.le_of_ble_eq_true rfl, Nat.le_of_ble_eq_true rfl⟩) ⟨fun a U g mk q => ⟨q.1, q.2.1, q.2.2.1, va_K.moved (u := U) (U := U.calling g mk a) (Vm.Alike.refl U.vm) q.2.2.2.1, q.2.2.2.2⟩, va_recv hK hP (ci := 1) (q0 := 0) rfl rfl, fun U hU hW => ⟨rfl, by rw [hU], by rw [hU]; exact hP, va_K.moved hW.alike hK, hD.weaken (fun _ _ _ _ => trivial)⟩⟩ rfl rfl hl.1 rfl (lv_room (Nat.le_of_ble_eq_true rfl)) dX1_first_275 ⟨Nat.zero_le _, Nat.zero_le _⟩) hA hD hP hS (fun o_37 H locs eo_37 hP hD hS => ?_)
                            have hP : va_P (dC, dI) vwCl (wm h0 q_memory k_memory v_atp v_vsAtp v_hgatp v_rights o_37 v_found v_wanted v_ofEntry m_memory) H := hP
                            have hD : va_D A (wm h0 q_memory k_memory v_atp v_vsAtp v_hgatp v_rights o_37 v_found v_wanted v_ofEntry m_memory) := hD
                            refine lv_lconst (v := 0) hx hb dX1_first_278 (by decide) ?_
                            exact W.lret (v := 0) hx hb hr (fun t ht hW => ⟨⟨_, (0, o_37, v_wanted, v_ofEntry), rfl, ⟨rfl, by subst eo_37; subst ez_36; subst ez_33; subst ez_5; subst ez_4; subst eo_3; subst ez_2; subst ez_1; first | (rw [fm_first0, if_pos c_1, if_pos c_90, if_neg c_114, if_neg c_122, if_neg c_164, if_pos c_179]; done) | (simp only [fm_first0, if_pos c_1, if_pos c_90, if_neg c_114, if_neg c_122, if_neg c_164, if_pos c_179]; done) | (rw [fm_first0, if_pos c_1, if_pos c_90, if_neg c_114, if_neg c_122, if_neg c_164, if_pos c_179] <;> rfl)⟩, by rw [ht]; exact hP, va_K.moved hW.alike hK, hD⟩, hS.F ht⟩) hS.2.2 dX1_first_279
                          · skip
                            exact absurd (by decide) c_21b
                        · skip
                          refine lv_iload hx hb dX1_first_182 (lv_at hl 2 rfl) ?_
                          refine lv_iload hx hb dX1_first_184 (lv_at hl 9 rfl) ?_
                          refine lv_iload hx hb dX1_first_186 (lv_at hl 12 rfl) ?_
                          refine cs_i (va_runS (As := [.int z_5, .int a2, .int a5]) (rest := []) ⟨hx, hb, hml, hown, hts⟩ (ctm_allows l H.size z_5 a2 a5) (va_cwS 3 hts gX1_first_X1_allows rfl rfl rfl (by decide +kernel) ⟨Nat.le_of_ble_eq_true rfl, Nat.le_of_ble_eq_true rfl⟩) ⟨fun a U g mk q => q, fun U hU hW => ⟨rfl, congrArg Array.size hU⟩⟩ rfl rfl hl.1 rfl (lv_room (Nat.le_of_ble_eq_true rfl)) dX1_first_188 ⟨Nat.zero_le _, Nat.zero_le _⟩) hA hP hS (fun H locs hP hS => ?_)
                          refine lv_if_eq (tgt := 203) hx hb dX1_first_191 (by decide) (fun c_191 => ?_) (fun c_191 => ?_)
                          · skip
                            refine lv_iconst (v := 0) hx hb dX1_first_203 (by decide) ?_
                            refine lv_istore (lv' := [(11, .int 0), (16, .int z_33), (15, .int 1), (14, .int z_5), (12, .long z_4), (9, .long z_1), (0, .ref h0), (1, .int a0), (2, .long a1), (4, .int a2), (5, .int a3), (6, .int a4), (7, .int a5), (8, .int 0)]) hx hb dX1_first_204 hl (by decide) rfl (fun ls hl => ?_)
                            refine lv_goto (tgt := 249) hx hb dX1_first_206 (by decide) ?_
                            refine lv_iload hx hb dX1_first_249 (lv_at hl 3 rfl) ?_
                            refine lv_bipush (v := 10) hx hb dX1_first_251 (by decide) ?_
                            refine lv_iushr (v := jiushr z_5 10) hx hb dX1_first_253 rfl ?_
                            refine lv_i2l (v := (jiushr z_5 10).toInt64) hx hb dX1_first_254 rfl ?_
                            refine lv_bipush (v := 12) hx hb dX1_first_255 (by decide) ?_
                            refine lv_lshl (v := jlshl ((jiushr z_5 10).toInt64) 12) hx hb dX1_first_257 rfl ?_
                            refine lv_topl (fun z_38 ez_38 => ?_)
                            refine lv_lstore (lv' := [(9, .long z_38), (11, .int 0), (16, .int z_33), (15, .int 1), (14, .int z_5), (12, .long z_4), (0, .ref h0), (1, .int a0), (2, .long a1), (4, .int a2), (5, .int a3), (6, .int a4), (7, .int a5), (8, .int 0)]) hx hb dX1_first_258 hl (by decide) rfl (fun ls hl => ?_)
                            refine lv_iinc (v := -1) (lv' := [(11, .int ((-1))), (9, .long z_38), (16, .int z_33), (15, .int 1), (14, .int z_5), (12, .long z_4), (0, .ref h0), (1, .int a0), (2, .long a1), (4, .int a2), (5, .int a3), (6, .int a4), (7, .int a5), (8, .int 0)]) hx hb dX1_first_260 hl (k := 1) rfl (by decide) (by decide) rfl (fun ls hl => ?_)
                            refine lv_goto (tgt := 19) hx hb dX1_first_263 (by decide) ?_
                            refine lv_iload hx hb dX1_first_19 (lv_at hl 0 rfl) ?_
                            refine lv_if_lt (tgt := 266) hx hb dX1_first_21 (by decide) (fun c_21b => ?_) (fun c_21b => ?_)
                            · skip
                              refine lv_aload_n hx hb dX1_first_266 rfl (lv_at hl 6 rfl) ?_
                              refine lv_iload hx hb dX1_first_267 (lv_at hl 9 rfl) ?_
                              refine lv_bipush (v := 12) hx hb dX1_first_269 (by decide) ?_
                              refine lv_bipush (v := 13) hx hb dX1_first_271 (by decide) ?_
                              refine lv_bipush (v := 15) hx hb dX1_first_273 (by decide) ?_
                              refine cw_v (va_runV (As := [.int a2, .int 12, .int 13, .int 15]) (rest := []) ⟨hx, hb, hml, hown, hts⟩ (ctm_raise l dC dI h0 q_memory k_memory H.size v_atp v_vsAtp v_hgatp v_rights o_3.2 v_found v_wanted v_ofEntry m_memory a2 12 13 15) (cwV 4 hts gX1_first_X1_raise rfl rfl rfl (by decide +kernel) ⟨Nat.le_of_ble_eq_true rfl, Nat.le_of_ble_eq_true rfl⟩) ⟨fun a U g mk q => ⟨q.1, q.2.1, q.2.2.1, va_K.moved (u := U) (U := U.calling g mk a) (Vm.Alike.refl U.vm) q.2.2.2.1, q.2.2.2.2⟩, va_recv hK hP (ci := 1) (q0 := 0) rfl rfl, fun U hU hW => ⟨rfl, by rw [hU], by rw [hU]; exact hP, va_K.moved hW.alike hK, hD.weaken (fun _ _ _ _ => trivial)⟩⟩ rfl rfl hl.1 rfl (lv_room (Nat.le_of_ble_eq_true rfl)) dX1_first_275 ⟨Nat.zero_le _, Nat.zero_le _⟩) hA hD hP hS (fun o_39 H locs eo_39 hP hD hS => ?_)
                              have hP : va_P (dC, dI) vwCl (wm h0 q_memory k_memory v_atp v_vsAtp v_hgatp v_rights o_39 v_found v_wanted v_ofEntry m_memory) H := hP
                              have hD : va_D A (wm h0 q_memory k_memory v_atp v_vsAtp v_hgatp v_rights o_39 v_found v_wanted v_ofEntry m_memory) := hD
                              refine lv_lconst (v := 0) hx hb dX1_first_278 (by decide) ?_
                              exact W.lret (v := 0) hx hb hr (fun t ht hW => ⟨⟨_, (0, o_39, v_wanted, v_ofEntry), rfl, ⟨rfl, by subst eo_39; subst ez_38; subst ez_33; subst ez_5; subst ez_4; subst eo_3; subst ez_2; subst ez_1; first | (rw [fm_first0, if_pos c_1, if_pos c_90, if_neg c_114, if_neg c_122, if_neg c_164, if_neg c_179, if_pos c_191]; done) | (simp only [fm_first0, if_pos c_1, if_pos c_90, if_neg c_114, if_neg c_122, if_neg c_164, if_neg c_179, if_pos c_191]; done) | (rw [fm_first0, if_pos c_1, if_pos c_90, if_neg c_114, if_neg c_122, if_neg c_164, if_neg c_179, if_pos c_191] <;> rfl)⟩, by rw [ht]; exact hP, va_K.moved hW.alike hK, hD⟩, hS.F ht⟩) hS.2.2 dX1_first_279
                            · skip
                              exact absurd (by decide) c_21b
                          · skip
                            refine lv_iload hx hb dX1_first_194 (lv_at hl 2 rfl) ?_
                            refine lv_iload hx hb dX1_first_196 (lv_at hl 1 rfl) ?_
                            refine lv_lload_n hx hb dX1_first_198 rfl (lv_at hl 8 rfl) ?_
                            refine cs_l (va_runS (As := [.int z_5, .int 1, .long a1]) (rest := []) ⟨hx, hb, hml, hown, hts⟩ (ctm_result l H.size z_5 1 a1) (va_cwS 3 hts gX1_first_X1_result rfl rfl rfl (by decide +kernel) ⟨Nat.le_of_ble_eq_true rfl, Nat.le_of_ble_eq_true rfl⟩) ⟨fun a U g mk q => q, fun U hU hW => ⟨rfl, congrArg Array.size hU⟩⟩ rfl rfl hl.1 rfl (lv_room (Nat.le_of_ble_eq_true rfl)) dX1_first_199 ⟨Nat.zero_le _, Nat.zero_le _⟩) hA hP hS (fun H locs hP hS => ?_)
                            exact W.lret (v := (fm_result z_5 1 a1)) hx hb hr (fun t ht hW => ⟨⟨_, ((fm_result z_5 1 a1), o_3.2, v_wanted, v_ofEntry), rfl, ⟨rfl, by subst ez_33; subst ez_5; subst ez_4; subst eo_3; subst ez_2; subst ez_1; first | (rw [fm_first0, if_pos c_1, if_pos c_90, if_neg c_114, if_neg c_122, if_neg c_164, if_neg c_179, if_neg c_191]; done) | (simp only [fm_first0, if_pos c_1, if_pos c_90, if_neg c_114, if_neg c_122, if_neg c_164, if_neg c_179, if_neg c_191]; done) | (rw [fm_first0, if_pos c_1, if_pos c_90, if_neg c_114, if_neg c_122, if_neg c_164, if_neg c_179, if_neg c_191] <;> rfl)⟩, by rw [ht]; exact hP, va_K.moved hW.alike hK, hD⟩, hS.F ht⟩) hS.2.2 dX1_first_202
                    · skip
                      refine lv_if_ne (tgt := 159) hx hb dX1_first_152 (by decide) (fun c_152 => ?_) (fun c_152 => ?_)
                      · skip
                        refine lv_iconst (v := 0) hx hb dX1_first_159 (by decide) ?_
                        exact W.eq (by rw [if_neg c_152] <;> rfl) (J160_152 _ _ hP hS)
                      · skip
                        refine lv_iconst (v := 1) hx hb dX1_first_155 (by decide) ?_
                        refine lv_goto (tgt := 160) hx hb dX1_first_156 (by decide) ?_
                        exact W.eq (by rw [if_pos c_152] <;> rfl) (J160_152 _ _ hP hS)
          · skip
            refine lv_lconst (v := 0) hx hb dX1_first_93 (by decide) ?_
            exact W.lret (v := 0) hx hb hr (fun t ht hW => ⟨⟨_, (0, o_3.2, v_wanted, v_ofEntry), rfl, ⟨rfl, by subst ez_4; subst eo_3; subst ez_2; subst ez_1; first | (rw [fm_first0, if_pos c_1, if_neg c_90]; done) | (simp only [fm_first0, if_pos c_1, if_neg c_90]; done) | (rw [fm_first0, if_pos c_1, if_neg c_90] <;> rfl)⟩, by rw [ht]; exact hP, va_K.moved hW.alike hK, hD⟩, hS.F ht⟩) hS.2.2 dX1_first_94
        · skip
          exact absurd (by decide) c_60
  · skip
    refine lv_lload_n hx hb dX1_first_4 rfl (lv_at hl 2 rfl) ?_
    exact W.lret (v := a1) hx hb hr (fun t ht hW => ⟨⟨_, (a1, v_code, v_wanted, v_ofEntry), rfl, ⟨rfl, by first | (rw [fm_first0, if_neg c_1]; done) | (simp only [fm_first0, if_neg c_1]; done) | (rw [fm_first0, if_neg c_1] <;> rfl)⟩, by rw [ht]; exact hP, va_K.moved hW.alike hK, hD⟩, hS.F ht⟩) hS.2.2 dX1_first_5
