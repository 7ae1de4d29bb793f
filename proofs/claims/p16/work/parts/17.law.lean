/-! ===== the law as a method of the machine ===== -/
def xmL : XM := (x, code, 4, some .boolean, 9, 320, 600000, 7302250, 11, [[some (.new 7, 9, 0, 0), none, none, some (.dup, 0, 0, 0), some (.invokespecial 9, 0, 1, 0), none, none, some (.astore_n 1, 0, 0, 0), some (.new 10, 10, 0, 0), none, none, some (.dup, 0, 0, 0), some (.invokespecial 12, 157, 1, 0), none, none, some (.astore_n 2, 0, 0, 0)],
  [some (.iconst 0, 0, 0, 0), some (.istore_n 3, 0, 0, 0), some (.iload_n 3, 0, 0, 0), some (.aload_n 0, 0, 0, 0), some (.arraylength, 0, 0, 0), some (.bipush 6, 0, 0, 6), none, some (.isub, 0, 0, 0), some (.if_icmp .gt 1665, 1689, 0, 0), none, none, some (.aload_n 0, 0, 0, 0), some (.iload_n 3, 0, 0, 0), some (.iaload, 0, 0, 0), some (.bipush 63, 0, 0, 63), none],
  [some (.iand, 0, 0, 0), some (.tableswitch 1650 0 46 #[203, 236, 279, 302, 365, 388, 421, 464, 513, 566, 599, 632, 655, 678, 731, 764, 797, 820, 853, 866, 889, 922, 945, 968, 1001, 1044, 1077, 1110, 1143, 1196, 1239, 1262, 1295, 1328, 1351, 1394, 1417, 1450, 1483, 1526, 1539, 1552, 1565, 1578, 1601, 1614, 1637], 0, 0, 0), none, none, none, none, none, none, none, none, none, none, none, none, none, none],
  [none, none, none, none, none, none, none, none, none, none, none, none, none, none, none, none],
  [none, none, none, none, none, none, none, none, none, none, none, none, none, none, none, none],
  [none, none, none, none, none, none, none, none, none, none, none, none, none, none, none, none],
  [none, none, none, none, none, none, none, none, none, none, none, none, none, none, none, none],
  [none, none, none, none, none, none, none, none, none, none, none, none, none, none, none, none],
  [none, none, none, none, none, none, none, none, none, none, none, none, none, none, none, none],
  [none, none, none, none, none, none, none, none, none, none, none, none, none, none, none, none],
  [none, none, none, none, none, none, none, none, none, none, none, none, none, none, none, none],
  [none, none, none, none, none, none, none, none, none, none, none, none, none, none, none, none],
  [none, none, none, none, none, none, none, none, none, none, none, none, none, none, none, none],
  [none, none, none, none, none, none, none, none, none, none, none, none, none, none, none, none],
  [none, none, none, none, none, none, none, none, none, none, none, none, some (.aload_n 1, 0, 0, 0), some (.aload_n 0, 0, 0, 0), some (.iload_n 3, 0, 0, 0), some (.iconst 1, 0, 0, 1)],
  [some (.iadd, 0, 0, 0), some (.iaload, 0, 0, 0), some (.aload_n 0, 0, 0, 0), some (.iload_n 3, 0, 0, 0), some (.iconst 2, 0, 0, 2), some (.iadd, 0, 0, 0), some (.iaload, 0, 0, 0), some (.invokevirtual 13, 8, 3, 0), none, none, some (.pop, 0, 0, 0), some (.aload_n 2, 0, 0, 0), some (.aload_n 0, 0, 0, 0), some (.iload_n 3, 0, 0, 0), some (.iconst 1, 0, 0, 1), some (.iadd, 0, 0, 0)],
  [some (.iaload, 0, 0, 0), some (.aload_n 0, 0, 0, 0), some (.iload_n 3, 0, 0, 0), some (.iconst 2, 0, 0, 2), some (.iadd, 0, 0, 0), some (.iaload, 0, 0, 0), some (.invokevirtual 17, 158, 3, 0), none, none, some (.pop, 0, 0, 0), some (.goto 1417, 1683, 0, 0), none, none, some (.aload_n 1, 0, 0, 0), some (.aload_n 0, 0, 0, 0), some (.iload_n 3, 0, 0, 0)],
  [some (.iconst 1, 0, 0, 1), some (.iadd, 0, 0, 0), some (.iaload, 0, 0, 0), some (.aload_n 0, 0, 0, 0), some (.iload_n 3, 0, 0, 0), some (.iconst 2, 0, 0, 2), some (.iadd, 0, 0, 0), some (.iaload, 0, 0, 0), some (.aload_n 0, 0, 0, 0), some (.iload_n 3, 0, 0, 0), some (.iconst 3, 0, 0, 3), some (.iadd, 0, 0, 0), some (.iaload, 0, 0, 0), some (.invokevirtual 18, 12, 4, 0), none, none],
  [some (.pop, 0, 0, 0), some (.aload_n 2, 0, 0, 0), some (.aload_n 0, 0, 0, 0), some (.iload_n 3, 0, 0, 0), some (.iconst 1, 0, 0, 1), some (.iadd, 0, 0, 0), some (.iaload, 0, 0, 0), some (.aload_n 0, 0, 0, 0), some (.iload_n 3, 0, 0, 0), some (.iconst 2, 0, 0, 2), some (.iadd, 0, 0, 0), some (.iaload, 0, 0, 0), some (.aload_n 0, 0, 0, 0), some (.iload_n 3, 0, 0, 0), some (.iconst 3, 0, 0, 3), some (.iadd, 0, 0, 0)],
  [some (.iaload, 0, 0, 0), some (.invokevirtual 22, 162, 4, 0), none, none, some (.pop, 0, 0, 0), some (.goto 1374, 1683, 0, 0), none, none, some (.aload_n 1, 0, 0, 0), some (.aload_n 0, 0, 0, 0), some (.iload_n 3, 0, 0, 0), some (.iconst 1, 0, 0, 1), some (.iadd, 0, 0, 0), some (.iaload, 0, 0, 0), some (.invokevirtual 23, 16, 2, 0), none],
  [none, some (.pop, 0, 0, 0), some (.aload_n 2, 0, 0, 0), some (.aload_n 0, 0, 0, 0), some (.iload_n 3, 0, 0, 0), some (.iconst 1, 0, 0, 1), some (.iadd, 0, 0, 0), some (.iaload, 0, 0, 0), some (.invokevirtual 27, 165, 2, 0), none, none, some (.pop, 0, 0, 0), some (.goto 1351, 1683, 0, 0), none, none, some (.aload_n 1, 0, 0, 0)],
  [some (.aload_n 0, 0, 0, 0), some (.iload_n 3, 0, 0, 0), some (.iconst 1, 0, 0, 1), some (.iadd, 0, 0, 0), some (.iaload, 0, 0, 0), some (.aload_n 0, 0, 0, 0), some (.iload_n 3, 0, 0, 0), some (.iconst 2, 0, 0, 2), some (.iadd, 0, 0, 0), some (.iaload, 0, 0, 0), some (.aload_n 0, 0, 0, 0), some (.iload_n 3, 0, 0, 0), some (.iconst 3, 0, 0, 3), some (.iadd, 0, 0, 0), some (.iaload, 0, 0, 0), some (.aload_n 0, 0, 0, 0)],
  [some (.iload_n 3, 0, 0, 0), some (.iconst 4, 0, 0, 4), some (.iadd, 0, 0, 0), some (.iaload, 0, 0, 0), some (.aload_n 0, 0, 0, 0), some (.iload_n 3, 0, 0, 0), some (.iconst 5, 0, 0, 5), some (.iadd, 0, 0, 0), some (.iaload, 0, 0, 0), some (.invokevirtual 28, 17, 6, 0), none, none, some (.pop, 0, 0, 0), some (.aload_n 2, 0, 0, 0), some (.aload_n 0, 0, 0, 0), some (.iload_n 3, 0, 0, 0)],
  [some (.iconst 1, 0, 0, 1), some (.iadd, 0, 0, 0), some (.iaload, 0, 0, 0), some (.aload_n 0, 0, 0, 0), some (.iload_n 3, 0, 0, 0), some (.iconst 2, 0, 0, 2), some (.iadd, 0, 0, 0), some (.iaload, 0, 0, 0), some (.aload_n 0, 0, 0, 0), some (.iload_n 3, 0, 0, 0), some (.iconst 3, 0, 0, 3), some (.iadd, 0, 0, 0), some (.iaload, 0, 0, 0), some (.aload_n 0, 0, 0, 0), some (.iload_n 3, 0, 0, 0), some (.iconst 4, 0, 0, 4)],
  [some (.iadd, 0, 0, 0), some (.iaload, 0, 0, 0), some (.aload_n 0, 0, 0, 0), some (.iload_n 3, 0, 0, 0), some (.iconst 5, 0, 0, 5), some (.iadd, 0, 0, 0), some (.iaload, 0, 0, 0), some (.invokevirtual 32, 166, 6, 0), none, none, some (.pop, 0, 0, 0), some (.goto 1288, 1683, 0, 0), none, none, some (.aload_n 1, 0, 0, 0), some (.aload_n 0, 0, 0, 0)],
  [some (.iload_n 3, 0, 0, 0), some (.iconst 1, 0, 0, 1), some (.iadd, 0, 0, 0), some (.iaload, 0, 0, 0), some (.invokevirtual 33, 18, 2, 0), none, none, some (.pop, 0, 0, 0), some (.aload_n 2, 0, 0, 0), some (.aload_n 0, 0, 0, 0), some (.iload_n 3, 0, 0, 0), some (.iconst 1, 0, 0, 1), some (.iadd, 0, 0, 0), some (.iaload, 0, 0, 0), some (.invokevirtual 36, 167, 2, 0), none],
  [none, some (.pop, 0, 0, 0), some (.goto 1265, 1683, 0, 0), none, none, some (.aload_n 1, 0, 0, 0), some (.aload_n 0, 0, 0, 0), some (.iload_n 3, 0, 0, 0), some (.iconst 1, 0, 0, 1), some (.iadd, 0, 0, 0), some (.iaload, 0, 0, 0), some (.aload_n 0, 0, 0, 0), some (.iload_n 3, 0, 0, 0), some (.iconst 2, 0, 0, 2), some (.iadd, 0, 0, 0), some (.iaload, 0, 0, 0)],
  [some (.invokevirtual 37, 19, 3, 0), none, none, some (.pop, 0, 0, 0), some (.aload_n 2, 0, 0, 0), some (.aload_n 0, 0, 0, 0), some (.iload_n 3, 0, 0, 0), some (.iconst 1, 0, 0, 1), some (.iadd, 0, 0, 0), some (.iaload, 0, 0, 0), some (.aload_n 0, 0, 0, 0), some (.iload_n 3, 0, 0, 0), some (.iconst 2, 0, 0, 2), some (.iadd, 0, 0, 0), some (.iaload, 0, 0, 0), some (.invokevirtual 40, 169, 3, 0)],
  [none, none, some (.pop, 0, 0, 0), some (.goto 1232, 1683, 0, 0), none, none, some (.aload_n 1, 0, 0, 0), some (.aload_n 0, 0, 0, 0), some (.iload_n 3, 0, 0, 0), some (.iconst 1, 0, 0, 1), some (.iadd, 0, 0, 0), some (.iaload, 0, 0, 0), some (.aload_n 0, 0, 0, 0), some (.iload_n 3, 0, 0, 0), some (.iconst 2, 0, 0, 2), some (.iadd, 0, 0, 0)],
  [some (.iaload, 0, 0, 0), some (.aload_n 0, 0, 0, 0), some (.iload_n 3, 0, 0, 0), some (.iconst 3, 0, 0, 3), some (.iadd, 0, 0, 0), some (.iaload, 0, 0, 0), some (.invokevirtual 41, 21, 4, 0), none, none, some (.pop, 0, 0, 0), some (.aload_n 2, 0, 0, 0), some (.aload_n 0, 0, 0, 0), some (.iload_n 3, 0, 0, 0), some (.iconst 1, 0, 0, 1), some (.iadd, 0, 0, 0), some (.iaload, 0, 0, 0)],
  [some (.aload_n 0, 0, 0, 0), some (.iload_n 3, 0, 0, 0), some (.iconst 2, 0, 0, 2), some (.iadd, 0, 0, 0), some (.iaload, 0, 0, 0), some (.aload_n 0, 0, 0, 0), some (.iload_n 3, 0, 0, 0), some (.iconst 3, 0, 0, 3), some (.iadd, 0, 0, 0), some (.iaload, 0, 0, 0), some (.invokevirtual 44, 171, 4, 0), none, none, some (.pop, 0, 0, 0), some (.goto 1189, 1683, 0, 0), none],
  [none, some (.aload_n 1, 0, 0, 0), some (.aload_n 0, 0, 0, 0), some (.iload_n 3, 0, 0, 0), some (.iconst 1, 0, 0, 1), some (.iadd, 0, 0, 0), some (.iaload, 0, 0, 0), some (.aload_n 0, 0, 0, 0), some (.iload_n 3, 0, 0, 0), some (.iconst 2, 0, 0, 2), some (.iadd, 0, 0, 0), some (.iaload, 0, 0, 0), some (.ifCond .eq 7, 515, 0, 0), none, none, some (.iconst 1, 0, 0, 1)],
  [some (.goto 4, 516, 0, 0), none, none, some (.iconst 0, 0, 0, 0), some (.invokevirtual 45, 22, 3, 0), none, none, some (.pop, 0, 0, 0), some (.aload_n 2, 0, 0, 0), some (.aload_n 0, 0, 0, 0), some (.iload_n 3, 0, 0, 0), some (.iconst 1, 0, 0, 1), some (.iadd, 0, 0, 0), some (.iaload, 0, 0, 0), some (.aload_n 0, 0, 0, 0), some (.iload_n 3, 0, 0, 0)],
  [some (.iconst 2, 0, 0, 2), some (.iadd, 0, 0, 0), some (.iaload, 0, 0, 0), some (.ifCond .eq 7, 538, 0, 0), none, none, some (.iconst 1, 0, 0, 1), some (.goto 4, 539, 0, 0), none, none, some (.iconst 0, 0, 0, 0), some (.invokevirtual 49, 173, 3, 0), none, none, some (.pop, 0, 0, 0), some (.goto 1140, 1683, 0, 0)],
  [none, none, some (.aload_n 1, 0, 0, 0), some (.aload_n 0, 0, 0, 0), some (.iload_n 3, 0, 0, 0), some (.iconst 1, 0, 0, 1), some (.iadd, 0, 0, 0), some (.iaload, 0, 0, 0), some (.aload_n 0, 0, 0, 0), some (.iload_n 3, 0, 0, 0), some (.iconst 2, 0, 0, 2), some (.iadd, 0, 0, 0), some (.iaload, 0, 0, 0), some (.aload_n 0, 0, 0, 0), some (.iload_n 3, 0, 0, 0), some (.iconst 3, 0, 0, 3)],
  [some (.iadd, 0, 0, 0), some (.iaload, 0, 0, 0), some (.aload_n 0, 0, 0, 0), some (.iload_n 3, 0, 0, 0), some (.iconst 4, 0, 0, 4), some (.iadd, 0, 0, 0), some (.iaload, 0, 0, 0), some (.invokevirtual 50, 28, 5, 0), none, none, some (.pop, 0, 0, 0), some (.aload_n 2, 0, 0, 0), some (.aload_n 0, 0, 0, 0), some (.iload_n 3, 0, 0, 0), some (.iconst 1, 0, 0, 1), some (.iadd, 0, 0, 0)],
  [some (.iaload, 0, 0, 0), some (.aload_n 0, 0, 0, 0), some (.iload_n 3, 0, 0, 0), some (.iconst 2, 0, 0, 2), some (.iadd, 0, 0, 0), some (.iaload, 0, 0, 0), some (.aload_n 0, 0, 0, 0), some (.iload_n 3, 0, 0, 0), some (.iconst 3, 0, 0, 3), some (.iadd, 0, 0, 0), some (.iaload, 0, 0, 0), some (.aload_n 0, 0, 0, 0), some (.iload_n 3, 0, 0, 0), some (.iconst 4, 0, 0, 4), some (.iadd, 0, 0, 0), some (.iaload, 0, 0, 0)],
  [some (.invokevirtual 54, 176, 5, 0), none, none, some (.pop, 0, 0, 0), some (.goto 1087, 1683, 0, 0), none, none, some (.aload_n 1, 0, 0, 0), some (.aload_n 0, 0, 0, 0), some (.iload_n 3, 0, 0, 0), some (.iconst 1, 0, 0, 1), some (.iadd, 0, 0, 0), some (.iaload, 0, 0, 0), some (.aload_n 0, 0, 0, 0), some (.iload_n 3, 0, 0, 0), some (.iconst 2, 0, 0, 2)],
  [some (.iadd, 0, 0, 0), some (.iaload, 0, 0, 0), some (.invokevirtual 55, 32, 3, 0), none, none, some (.pop, 0, 0, 0), some (.aload_n 2, 0, 0, 0), some (.aload_n 0, 0, 0, 0), some (.iload_n 3, 0, 0, 0), some (.iconst 1, 0, 0, 1), some (.iadd, 0, 0, 0), some (.iaload, 0, 0, 0), some (.aload_n 0, 0, 0, 0), some (.iload_n 3, 0, 0, 0), some (.iconst 2, 0, 0, 2), some (.iadd, 0, 0, 0)],
  [some (.iaload, 0, 0, 0), some (.invokevirtual 58, 179, 3, 0), none, none, some (.pop, 0, 0, 0), some (.goto 1054, 1683, 0, 0), none, none, some (.aload_n 1, 0, 0, 0), some (.aload_n 0, 0, 0, 0), some (.iload_n 3, 0, 0, 0), some (.iconst 1, 0, 0, 1), some (.iadd, 0, 0, 0), some (.iaload, 0, 0, 0), some (.aload_n 0, 0, 0, 0), some (.iload_n 3, 0, 0, 0)],
  [some (.iconst 2, 0, 0, 2), some (.iadd, 0, 0, 0), some (.iaload, 0, 0, 0), some (.invokevirtual 59, 34, 3, 0), none, none, some (.pop, 0, 0, 0), some (.aload_n 2, 0, 0, 0), some (.aload_n 0, 0, 0, 0), some (.iload_n 3, 0, 0, 0), some (.iconst 1, 0, 0, 1), some (.iadd, 0, 0, 0), some (.iaload, 0, 0, 0), some (.aload_n 0, 0, 0, 0), some (.iload_n 3, 0, 0, 0), some (.iconst 2, 0, 0, 2)],
  [some (.iadd, 0, 0, 0), some (.iaload, 0, 0, 0), some (.invokevirtual 62, 181, 3, 0), none, none, some (.pop, 0, 0, 0), some (.goto 1021, 1683, 0, 0), none, none, some (.aload_n 1, 0, 0, 0), some (.aload_n 0, 0, 0, 0), some (.iload_n 3, 0, 0, 0), some (.iconst 1, 0, 0, 1), some (.iadd, 0, 0, 0), some (.iaload, 0, 0, 0), some (.invokevirtual 63, 35, 2, 0)],
  [none, none, some (.pop, 0, 0, 0), some (.aload_n 2, 0, 0, 0), some (.aload_n 0, 0, 0, 0), some (.iload_n 3, 0, 0, 0), some (.iconst 1, 0, 0, 1), some (.iadd, 0, 0, 0), some (.iaload, 0, 0, 0), some (.invokevirtual 66, 182, 2, 0), none, none, some (.pop, 0, 0, 0), some (.goto 998, 1683, 0, 0), none, none],
  [some (.aload_n 1, 0, 0, 0), some (.aload_n 0, 0, 0, 0), some (.iload_n 3, 0, 0, 0), some (.iconst 1, 0, 0, 1), some (.iadd, 0, 0, 0), some (.iaload, 0, 0, 0), some (.invokevirtual 67, 36, 2, 0), none, none, some (.pop, 0, 0, 0), some (.aload_n 2, 0, 0, 0), some (.aload_n 0, 0, 0, 0), some (.iload_n 3, 0, 0, 0), some (.iconst 1, 0, 0, 1), some (.iadd, 0, 0, 0), some (.iaload, 0, 0, 0)],
  [some (.invokevirtual 70, 183, 2, 0), none, none, some (.pop, 0, 0, 0), some (.goto 975, 1683, 0, 0), none, none, some (.aload_n 1, 0, 0, 0), some (.aload_n 0, 0, 0, 0), some (.iload_n 3, 0, 0, 0), some (.iconst 1, 0, 0, 1), some (.iadd, 0, 0, 0), some (.iaload, 0, 0, 0), some (.aload_n 0, 0, 0, 0), some (.iload_n 3, 0, 0, 0), some (.iconst 2, 0, 0, 2)],
  [some (.iadd, 0, 0, 0), some (.iaload, 0, 0, 0), some (.aload_n 0, 0, 0, 0), some (.iload_n 3, 0, 0, 0), some (.iconst 3, 0, 0, 3), some (.iadd, 0, 0, 0), some (.iaload, 0, 0, 0), some (.aload_n 0, 0, 0, 0), some (.iload_n 3, 0, 0, 0), some (.iconst 4, 0, 0, 4), some (.iadd, 0, 0, 0), some (.iaload, 0, 0, 0), some (.invokevirtual 71, 37, 5, 0), none, none, some (.pop, 0, 0, 0)],
  [some (.aload_n 2, 0, 0, 0), some (.aload_n 0, 0, 0, 0), some (.iload_n 3, 0, 0, 0), some (.iconst 1, 0, 0, 1), some (.iadd, 0, 0, 0), some (.iaload, 0, 0, 0), some (.aload_n 0, 0, 0, 0), some (.iload_n 3, 0, 0, 0), some (.iconst 2, 0, 0, 2), some (.iadd, 0, 0, 0), some (.iaload, 0, 0, 0), some (.aload_n 0, 0, 0, 0), some (.iload_n 3, 0, 0, 0), some (.iconst 3, 0, 0, 3), some (.iadd, 0, 0, 0), some (.iaload, 0, 0, 0)],
  [some (.aload_n 0, 0, 0, 0), some (.iload_n 3, 0, 0, 0), some (.iconst 4, 0, 0, 4), some (.iadd, 0, 0, 0), some (.iaload, 0, 0, 0), some (.invokevirtual 74, 187, 5, 0), none, none, some (.pop, 0, 0, 0), some (.goto 922, 1683, 0, 0), none, none, some (.aload_n 1, 0, 0, 0), some (.aload_n 0, 0, 0, 0), some (.iload_n 3, 0, 0, 0), some (.iconst 1, 0, 0, 1)],
  [some (.iadd, 0, 0, 0), some (.iaload, 0, 0, 0), some (.aload_n 0, 0, 0, 0), some (.iload_n 3, 0, 0, 0), some (.iconst 2, 0, 0, 2), some (.iadd, 0, 0, 0), some (.iaload, 0, 0, 0), some (.invokevirtual 75, 41, 3, 0), none, none, some (.aload_n 2, 0, 0, 0), some (.aload_n 0, 0, 0, 0), some (.iload_n 3, 0, 0, 0), some (.iconst 1, 0, 0, 1), some (.iadd, 0, 0, 0), some (.iaload, 0, 0, 0)],
  [some (.aload_n 0, 0, 0, 0), some (.iload_n 3, 0, 0, 0), some (.iconst 2, 0, 0, 2), some (.iadd, 0, 0, 0), some (.iaload, 0, 0, 0), some (.invokevirtual 78, 189, 3, 0), none, none, some (.if_icmp .eq 891, 1683, 0, 0), none, none, some (.iconst 0, 0, 0, 0), some (.ireturn, 0, 0, 0), some (.aload_n 1, 0, 0, 0), some (.aload_n 0, 0, 0, 0), some (.iload_n 3, 0, 0, 0)],
  [some (.iconst 1, 0, 0, 1), some (.iadd, 0, 0, 0), some (.iaload, 0, 0, 0), some (.aload_n 0, 0, 0, 0), some (.iload_n 3, 0, 0, 0), some (.iconst 2, 0, 0, 2), some (.iadd, 0, 0, 0), some (.iaload, 0, 0, 0), some (.invokevirtual 79, 45, 3, 0), none, none, some (.pop, 0, 0, 0), some (.aload_n 2, 0, 0, 0), some (.aload_n 0, 0, 0, 0), some (.iload_n 3, 0, 0, 0), some (.iconst 1, 0, 0, 1)],
  [some (.iadd, 0, 0, 0), some (.iaload, 0, 0, 0), some (.aload_n 0, 0, 0, 0), some (.iload_n 3, 0, 0, 0), some (.iconst 2, 0, 0, 2), some (.iadd, 0, 0, 0), some (.iaload, 0, 0, 0), some (.invokevirtual 82, 194, 3, 0), none, none, some (.pop, 0, 0, 0), some (.goto 856, 1683, 0, 0), none, none, some (.aload_n 1, 0, 0, 0), some (.aload_n 0, 0, 0, 0)],
  [some (.iload_n 3, 0, 0, 0), some (.iconst 1, 0, 0, 1), some (.iadd, 0, 0, 0), some (.iaload, 0, 0, 0), some (.invokevirtual 83, 47, 2, 0), none, none, some (.pop, 0, 0, 0), some (.aload_n 2, 0, 0, 0), some (.aload_n 0, 0, 0, 0), some (.iload_n 3, 0, 0, 0), some (.iconst 1, 0, 0, 1), some (.iadd, 0, 0, 0), some (.iaload, 0, 0, 0), some (.invokevirtual 86, 195, 2, 0), none],
  [none, some (.pop, 0, 0, 0), some (.goto 833, 1683, 0, 0), none, none, some (.aload_n 1, 0, 0, 0), some (.aload_n 0, 0, 0, 0), some (.iload_n 3, 0, 0, 0), some (.iconst 1, 0, 0, 1), some (.iadd, 0, 0, 0), some (.iaload, 0, 0, 0), some (.aload_n 0, 0, 0, 0), some (.iload_n 3, 0, 0, 0), some (.iconst 2, 0, 0, 2), some (.iadd, 0, 0, 0), some (.iaload, 0, 0, 0)],
  [some (.invokevirtual 87, 49, 3, 0), none, none, some (.pop, 0, 0, 0), some (.aload_n 2, 0, 0, 0), some (.aload_n 0, 0, 0, 0), some (.iload_n 3, 0, 0, 0), some (.iconst 1, 0, 0, 1), some (.iadd, 0, 0, 0), some (.iaload, 0, 0, 0), some (.aload_n 0, 0, 0, 0), some (.iload_n 3, 0, 0, 0), some (.iconst 2, 0, 0, 2), some (.iadd, 0, 0, 0), some (.iaload, 0, 0, 0), some (.invokevirtual 90, 196, 3, 0)],
  [none, none, some (.pop, 0, 0, 0), some (.goto 800, 1683, 0, 0), none, none, some (.aload_n 1, 0, 0, 0), some (.invokevirtual 91, 51, 1, 0), none, none, some (.pop, 0, 0, 0), some (.aload_n 2, 0, 0, 0), some (.invokevirtual 95, 198, 1, 0), none, none, some (.pop, 0, 0, 0)],
  [some (.goto 787, 1683, 0, 0), none, none, some (.aload_n 1, 0, 0, 0), some (.aload_n 0, 0, 0, 0), some (.iload_n 3, 0, 0, 0), some (.iconst 1, 0, 0, 1), some (.iadd, 0, 0, 0), some (.iaload, 0, 0, 0), some (.invokevirtual 96, 72, 2, 0), none, none, some (.pop, 0, 0, 0), some (.aload_n 2, 0, 0, 0), some (.aload_n 0, 0, 0, 0), some (.iload_n 3, 0, 0, 0)],
  [some (.iconst 1, 0, 0, 1), some (.iadd, 0, 0, 0), some (.iaload, 0, 0, 0), some (.invokevirtual 99, 207, 2, 0), none, none, some (.pop, 0, 0, 0), some (.goto 764, 1683, 0, 0), none, none, some (.aload_n 1, 0, 0, 0), some (.aload_n 0, 0, 0, 0), some (.iload_n 3, 0, 0, 0), some (.iconst 1, 0, 0, 1), some (.iadd, 0, 0, 0), some (.iaload, 0, 0, 0)],
  [some (.aload_n 0, 0, 0, 0), some (.iload_n 3, 0, 0, 0), some (.iconst 2, 0, 0, 2), some (.iadd, 0, 0, 0), some (.iaload, 0, 0, 0), some (.invokevirtual 100, 74, 3, 0), none, none, some (.pop, 0, 0, 0), some (.aload_n 2, 0, 0, 0), some (.aload_n 0, 0, 0, 0), some (.iload_n 3, 0, 0, 0), some (.iconst 1, 0, 0, 1), some (.iadd, 0, 0, 0), some (.iaload, 0, 0, 0), some (.aload_n 0, 0, 0, 0)],
  [some (.iload_n 3, 0, 0, 0), some (.iconst 2, 0, 0, 2), some (.iadd, 0, 0, 0), some (.iaload, 0, 0, 0), some (.invokevirtual 103, 208, 3, 0), none, none, some (.pop, 0, 0, 0), some (.goto 731, 1683, 0, 0), none, none, some (.aload_n 1, 0, 0, 0), some (.aload_n 0, 0, 0, 0), some (.iload_n 3, 0, 0, 0), some (.iconst 1, 0, 0, 1), some (.iadd, 0, 0, 0)],
  [some (.iaload, 0, 0, 0), some (.invokevirtual 104, 76, 2, 0), none, none, some (.pop, 0, 0, 0), some (.aload_n 2, 0, 0, 0), some (.aload_n 0, 0, 0, 0), some (.iload_n 3, 0, 0, 0), some (.iconst 1, 0, 0, 1), some (.iadd, 0, 0, 0), some (.iaload, 0, 0, 0), some (.invokevirtual 107, 211, 2, 0), none, none, some (.pop, 0, 0, 0), some (.goto 708, 1683, 0, 0)],
  [none, none, some (.aload_n 1, 0, 0, 0), some (.aload_n 0, 0, 0, 0), some (.iload_n 3, 0, 0, 0), some (.iconst 1, 0, 0, 1), some (.iadd, 0, 0, 0), some (.iaload, 0, 0, 0), some (.invokevirtual 108, 78, 2, 0), none, none, some (.pop, 0, 0, 0), some (.aload_n 2, 0, 0, 0), some (.aload_n 0, 0, 0, 0), some (.iload_n 3, 0, 0, 0), some (.iconst 1, 0, 0, 1)],
  [some (.iadd, 0, 0, 0), some (.iaload, 0, 0, 0), some (.invokevirtual 111, 212, 2, 0), none, none, some (.pop, 0, 0, 0), some (.goto 685, 1683, 0, 0), none, none, some (.aload_n 1, 0, 0, 0), some (.aload_n 0, 0, 0, 0), some (.iload_n 3, 0, 0, 0), some (.iconst 1, 0, 0, 1), some (.iadd, 0, 0, 0), some (.iaload, 0, 0, 0), some (.aload_n 0, 0, 0, 0)],
  [some (.iload_n 3, 0, 0, 0), some (.iconst 2, 0, 0, 2), some (.iadd, 0, 0, 0), some (.iaload, 0, 0, 0), some (.invokevirtual 112, 79, 3, 0), none, none, some (.pop, 0, 0, 0), some (.aload_n 2, 0, 0, 0), some (.aload_n 0, 0, 0, 0), some (.iload_n 3, 0, 0, 0), some (.iconst 1, 0, 0, 1), some (.iadd, 0, 0, 0), some (.iaload, 0, 0, 0), some (.aload_n 0, 0, 0, 0), some (.iload_n 3, 0, 0, 0)],
  [some (.iconst 2, 0, 0, 2), some (.iadd, 0, 0, 0), some (.iaload, 0, 0, 0), some (.invokevirtual 115, 184, 3, 0), none, none, some (.pop, 0, 0, 0), some (.goto 652, 1683, 0, 0), none, none, some (.aload_n 1, 0, 0, 0), some (.aload_n 0, 0, 0, 0), some (.iload_n 3, 0, 0, 0), some (.iconst 1, 0, 0, 1), some (.iadd, 0, 0, 0), some (.iaload, 0, 0, 0)],
  [some (.aload_n 0, 0, 0, 0), some (.iload_n 3, 0, 0, 0), some (.iconst 2, 0, 0, 2), some (.iadd, 0, 0, 0), some (.iaload, 0, 0, 0), some (.aload_n 0, 0, 0, 0), some (.iload_n 3, 0, 0, 0), some (.iconst 3, 0, 0, 3), some (.iadd, 0, 0, 0), some (.iaload, 0, 0, 0), some (.invokevirtual 116, 82, 4, 0), none, none, some (.pop, 0, 0, 0), some (.aload_n 2, 0, 0, 0), some (.aload_n 0, 0, 0, 0)],
  [some (.iload_n 3, 0, 0, 0), some (.iconst 1, 0, 0, 1), some (.iadd, 0, 0, 0), some (.iaload, 0, 0, 0), some (.aload_n 0, 0, 0, 0), some (.iload_n 3, 0, 0, 0), some (.iconst 2, 0, 0, 2), some (.iadd, 0, 0, 0), some (.iaload, 0, 0, 0), some (.aload_n 0, 0, 0, 0), some (.iload_n 3, 0, 0, 0), some (.iconst 3, 0, 0, 3), some (.iadd, 0, 0, 0), some (.iaload, 0, 0, 0), some (.invokevirtual 119, 213, 4, 0), none],
  [none, some (.pop, 0, 0, 0), some (.goto 609, 1683, 0, 0), none, none, some (.aload_n 1, 0, 0, 0), some (.aload_n 0, 0, 0, 0), some (.iload_n 3, 0, 0, 0), some (.iconst 1, 0, 0, 1), some (.iadd, 0, 0, 0), some (.iaload, 0, 0, 0), some (.aload_n 0, 0, 0, 0), some (.iload_n 3, 0, 0, 0), some (.iconst 2, 0, 0, 2), some (.iadd, 0, 0, 0), some (.iaload, 0, 0, 0)],
  [some (.invokevirtual 120, 87, 3, 0), none, none, some (.pop, 0, 0, 0), some (.aload_n 2, 0, 0, 0), some (.aload_n 0, 0, 0, 0), some (.iload_n 3, 0, 0, 0), some (.iconst 1, 0, 0, 1), some (.iadd, 0, 0, 0), some (.iaload, 0, 0, 0), some (.aload_n 0, 0, 0, 0), some (.iload_n 3, 0, 0, 0), some (.iconst 2, 0, 0, 2), some (.iadd, 0, 0, 0), some (.iaload, 0, 0, 0), some (.invokevirtual 123, 215, 3, 0)],
  [none, none, some (.pop, 0, 0, 0), some (.goto 576, 1683, 0, 0), none, none, some (.aload_n 1, 0, 0, 0), some (.aload_n 0, 0, 0, 0), some (.iload_n 3, 0, 0, 0), some (.iconst 1, 0, 0, 1), some (.iadd, 0, 0, 0), some (.iaload, 0, 0, 0), some (.aload_n 0, 0, 0, 0), some (.iload_n 3, 0, 0, 0), some (.iconst 2, 0, 0, 2), some (.iadd, 0, 0, 0)],
  [some (.iaload, 0, 0, 0), some (.invokevirtual 124, 90, 3, 0), none, none, some (.pop, 0, 0, 0), some (.aload_n 2, 0, 0, 0), some (.aload_n 0, 0, 0, 0), some (.iload_n 3, 0, 0, 0), some (.iconst 1, 0, 0, 1), some (.iadd, 0, 0, 0), some (.iaload, 0, 0, 0), some (.aload_n 0, 0, 0, 0), some (.iload_n 3, 0, 0, 0), some (.iconst 2, 0, 0, 2), some (.iadd, 0, 0, 0), some (.iaload, 0, 0, 0)],
  [some (.invokevirtual 127, 218, 3, 0), none, none, some (.pop, 0, 0, 0), some (.goto 543, 1683, 0, 0), none, none, some (.aload_n 1, 0, 0, 0), some (.aload_n 0, 0, 0, 0), some (.iload_n 3, 0, 0, 0), some (.iconst 1, 0, 0, 1), some (.iadd, 0, 0, 0), some (.iaload, 0, 0, 0), some (.aload_n 0, 0, 0, 0), some (.iload_n 3, 0, 0, 0), some (.iconst 2, 0, 0, 2)],
  [some (.iadd, 0, 0, 0), some (.iaload, 0, 0, 0), some (.invokevirtual 128, 93, 3, 0), none, none, some (.pop, 0, 0, 0), some (.aload_n 2, 0, 0, 0), some (.aload_n 0, 0, 0, 0), some (.iload_n 3, 0, 0, 0), some (.iconst 1, 0, 0, 1), some (.iadd, 0, 0, 0), some (.iaload, 0, 0, 0), some (.aload_n 0, 0, 0, 0), some (.iload_n 3, 0, 0, 0), some (.iconst 2, 0, 0, 2), some (.iadd, 0, 0, 0)],
  [some (.iaload, 0, 0, 0), some (.invokevirtual 131, 219, 3, 0), none, none, some (.pop, 0, 0, 0), some (.goto 510, 1683, 0, 0), none, none, some (.aload_n 1, 0, 0, 0), some (.aload_n 0, 0, 0, 0), some (.iload_n 3, 0, 0, 0), some (.iconst 1, 0, 0, 1), some (.iadd, 0, 0, 0), some (.iaload, 0, 0, 0), some (.aload_n 0, 0, 0, 0), some (.iload_n 3, 0, 0, 0)],
  [some (.iconst 2, 0, 0, 2), some (.iadd, 0, 0, 0), some (.iaload, 0, 0, 0), some (.aload_n 0, 0, 0, 0), some (.iload_n 3, 0, 0, 0), some (.iconst 3, 0, 0, 3), some (.iadd, 0, 0, 0), some (.iaload, 0, 0, 0), some (.aload_n 0, 0, 0, 0), some (.iload_n 3, 0, 0, 0), some (.iconst 4, 0, 0, 4), some (.iadd, 0, 0, 0), some (.iaload, 0, 0, 0), some (.invokevirtual 132, 94, 5, 0), none, none],
  [some (.pop, 0, 0, 0), some (.aload_n 2, 0, 0, 0), some (.aload_n 0, 0, 0, 0), some (.iload_n 3, 0, 0, 0), some (.iconst 1, 0, 0, 1), some (.iadd, 0, 0, 0), some (.iaload, 0, 0, 0), some (.aload_n 0, 0, 0, 0), some (.iload_n 3, 0, 0, 0), some (.iconst 2, 0, 0, 2), some (.iadd, 0, 0, 0), some (.iaload, 0, 0, 0), some (.aload_n 0, 0, 0, 0), some (.iload_n 3, 0, 0, 0), some (.iconst 3, 0, 0, 3), some (.iadd, 0, 0, 0)],
  [some (.iaload, 0, 0, 0), some (.aload_n 0, 0, 0, 0), some (.iload_n 3, 0, 0, 0), some (.iconst 4, 0, 0, 4), some (.iadd, 0, 0, 0), some (.iaload, 0, 0, 0), some (.invokevirtual 135, 220, 5, 0), none, none, some (.pop, 0, 0, 0), some (.goto 457, 1683, 0, 0), none, none, some (.aload_n 1, 0, 0, 0), some (.aload_n 0, 0, 0, 0), some (.iload_n 3, 0, 0, 0)],
  [some (.iconst 1, 0, 0, 1), some (.iadd, 0, 0, 0), some (.iaload, 0, 0, 0), some (.aload_n 0, 0, 0, 0), some (.iload_n 3, 0, 0, 0), some (.iconst 2, 0, 0, 2), some (.iadd, 0, 0, 0), some (.iaload, 0, 0, 0), some (.aload_n 0, 0, 0, 0), some (.iload_n 3, 0, 0, 0), some (.iconst 3, 0, 0, 3), some (.iadd, 0, 0, 0), some (.iaload, 0, 0, 0), some (.invokevirtual 136, 100, 4, 0), none, none],
  [some (.pop, 0, 0, 0), some (.aload_n 2, 0, 0, 0), some (.aload_n 0, 0, 0, 0), some (.iload_n 3, 0, 0, 0), some (.iconst 1, 0, 0, 1), some (.iadd, 0, 0, 0), some (.iaload, 0, 0, 0), some (.aload_n 0, 0, 0, 0), some (.iload_n 3, 0, 0, 0), some (.iconst 2, 0, 0, 2), some (.iadd, 0, 0, 0), some (.iaload, 0, 0, 0), some (.aload_n 0, 0, 0, 0), some (.iload_n 3, 0, 0, 0), some (.iconst 3, 0, 0, 3), some (.iadd, 0, 0, 0)],
  [some (.iaload, 0, 0, 0), some (.invokevirtual 139, 224, 4, 0), none, none, some (.pop, 0, 0, 0), some (.goto 414, 1683, 0, 0), none, none, some (.aload_n 1, 0, 0, 0), some (.aload_n 0, 0, 0, 0), some (.iload_n 3, 0, 0, 0), some (.iconst 1, 0, 0, 1), some (.iadd, 0, 0, 0), some (.iaload, 0, 0, 0), some (.invokevirtual 140, 103, 2, 0), none],
  [none, some (.pop, 0, 0, 0), some (.aload_n 2, 0, 0, 0), some (.aload_n 0, 0, 0, 0), some (.iload_n 3, 0, 0, 0), some (.iconst 1, 0, 0, 1), some (.iadd, 0, 0, 0), some (.iaload, 0, 0, 0), some (.invokevirtual 143, 225, 2, 0), none, none, some (.pop, 0, 0, 0), some (.goto 391, 1683, 0, 0), none, none, some (.aload_n 1, 0, 0, 0)],
  [some (.aload_n 0, 0, 0, 0), some (.iload_n 3, 0, 0, 0), some (.iconst 1, 0, 0, 1), some (.iadd, 0, 0, 0), some (.iaload, 0, 0, 0), some (.aload_n 0, 0, 0, 0), some (.iload_n 3, 0, 0, 0), some (.iconst 2, 0, 0, 2), some (.iadd, 0, 0, 0), some (.iaload, 0, 0, 0), some (.invokevirtual 144, 108, 3, 0), none, none, some (.pop, 0, 0, 0), some (.aload_n 2, 0, 0, 0), some (.aload_n 0, 0, 0, 0)],
  [some (.iload_n 3, 0, 0, 0), some (.iconst 1, 0, 0, 1), some (.iadd, 0, 0, 0), some (.iaload, 0, 0, 0), some (.aload_n 0, 0, 0, 0), some (.iload_n 3, 0, 0, 0), some (.iconst 2, 0, 0, 2), some (.iadd, 0, 0, 0), some (.iaload, 0, 0, 0), some (.invokevirtual 147, 228, 3, 0), none, none, some (.pop, 0, 0, 0), some (.goto 358, 1683, 0, 0), none, none],
  [some (.aload_n 1, 0, 0, 0), some (.aload_n 0, 0, 0, 0), some (.iload_n 3, 0, 0, 0), some (.iconst 1, 0, 0, 1), some (.iadd, 0, 0, 0), some (.iaload, 0, 0, 0), some (.aload_n 0, 0, 0, 0), some (.iload_n 3, 0, 0, 0), some (.iconst 2, 0, 0, 2), some (.iadd, 0, 0, 0), some (.iaload, 0, 0, 0), some (.invokevirtual 148, 109, 3, 0), none, none, some (.pop, 0, 0, 0), some (.aload_n 2, 0, 0, 0)],
  [some (.aload_n 0, 0, 0, 0), some (.iload_n 3, 0, 0, 0), some (.iconst 1, 0, 0, 1), some (.iadd, 0, 0, 0), some (.iaload, 0, 0, 0), some (.aload_n 0, 0, 0, 0), some (.iload_n 3, 0, 0, 0), some (.iconst 2, 0, 0, 2), some (.iadd, 0, 0, 0), some (.iaload, 0, 0, 0), some (.invokevirtual 151, 229, 3, 0), none, none, some (.pop, 0, 0, 0), some (.goto 325, 1683, 0, 0), none],
  [none, some (.aload_n 1, 0, 0, 0), some (.aload_n 0, 0, 0, 0), some (.iload_n 3, 0, 0, 0), some (.iconst 1, 0, 0, 1), some (.iadd, 0, 0, 0), some (.iaload, 0, 0, 0), some (.invokevirtual 152, 110, 2, 0), none, none, some (.pop, 0, 0, 0), some (.aload_n 2, 0, 0, 0), some (.aload_n 0, 0, 0, 0), some (.iload_n 3, 0, 0, 0), some (.iconst 1, 0, 0, 1), some (.iadd, 0, 0, 0)],
  [some (.iaload, 0, 0, 0), some (.invokevirtual 155, 230, 2, 0), none, none, some (.pop, 0, 0, 0), some (.goto 302, 1683, 0, 0), none, none, some (.aload_n 1, 0, 0, 0), some (.aload_n 0, 0, 0, 0), some (.iload_n 3, 0, 0, 0), some (.iconst 1, 0, 0, 1), some (.iadd, 0, 0, 0), some (.iaload, 0, 0, 0), some (.aload_n 0, 0, 0, 0), some (.iload_n 3, 0, 0, 0)],
  [some (.iconst 2, 0, 0, 2), some (.iadd, 0, 0, 0), some (.iaload, 0, 0, 0), some (.aload_n 0, 0, 0, 0), some (.iload_n 3, 0, 0, 0), some (.iconst 3, 0, 0, 3), some (.iadd, 0, 0, 0), some (.iaload, 0, 0, 0), some (.invokevirtual 156, 112, 4, 0), none, none, some (.pop, 0, 0, 0), some (.aload_n 2, 0, 0, 0), some (.aload_n 0, 0, 0, 0), some (.iload_n 3, 0, 0, 0), some (.iconst 1, 0, 0, 1)],
  [some (.iadd, 0, 0, 0), some (.iaload, 0, 0, 0), some (.aload_n 0, 0, 0, 0), some (.iload_n 3, 0, 0, 0), some (.iconst 2, 0, 0, 2), some (.iadd, 0, 0, 0), some (.iaload, 0, 0, 0), some (.aload_n 0, 0, 0, 0), some (.iload_n 3, 0, 0, 0), some (.iconst 3, 0, 0, 3), some (.iadd, 0, 0, 0), some (.iaload, 0, 0, 0), some (.invokevirtual 159, 231, 4, 0), none, none, some (.pop, 0, 0, 0)],
  [some (.goto 259, 1683, 0, 0), none, none, some (.aload_n 1, 0, 0, 0), some (.aload_n 0, 0, 0, 0), some (.iload_n 3, 0, 0, 0), some (.iconst 1, 0, 0, 1), some (.iadd, 0, 0, 0), some (.iaload, 0, 0, 0), some (.invokevirtual 160, 115, 2, 0), none, none, some (.pop, 0, 0, 0), some (.aload_n 2, 0, 0, 0), some (.aload_n 0, 0, 0, 0), some (.iload_n 3, 0, 0, 0)],
  [some (.iconst 1, 0, 0, 1), some (.iadd, 0, 0, 0), some (.iaload, 0, 0, 0), some (.invokevirtual 163, 234, 2, 0), none, none, some (.pop, 0, 0, 0), some (.goto 236, 1683, 0, 0), none, none, some (.aload_n 1, 0, 0, 0), some (.aload_n 0, 0, 0, 0), some (.iload_n 3, 0, 0, 0), some (.iconst 1, 0, 0, 1), some (.iadd, 0, 0, 0), some (.iaload, 0, 0, 0)],
  [some (.aload_n 0, 0, 0, 0), some (.iload_n 3, 0, 0, 0), some (.iconst 2, 0, 0, 2), some (.iadd, 0, 0, 0), some (.iaload, 0, 0, 0), some (.invokevirtual 164, 116, 3, 0), none, none, some (.pop, 0, 0, 0), some (.aload_n 2, 0, 0, 0), some (.aload_n 0, 0, 0, 0), some (.iload_n 3, 0, 0, 0), some (.iconst 1, 0, 0, 1), some (.iadd, 0, 0, 0), some (.iaload, 0, 0, 0), some (.aload_n 0, 0, 0, 0)],
  [some (.iload_n 3, 0, 0, 0), some (.iconst 2, 0, 0, 2), some (.iadd, 0, 0, 0), some (.iaload, 0, 0, 0), some (.invokevirtual 167, 235, 3, 0), none, none, some (.pop, 0, 0, 0), some (.goto 203, 1683, 0, 0), none, none, some (.aload_n 1, 0, 0, 0), some (.aload_n 0, 0, 0, 0), some (.iload_n 3, 0, 0, 0), some (.iconst 1, 0, 0, 1), some (.iadd, 0, 0, 0)],
  [some (.iaload, 0, 0, 0), some (.aload_n 0, 0, 0, 0), some (.iload_n 3, 0, 0, 0), some (.iconst 2, 0, 0, 2), some (.iadd, 0, 0, 0), some (.iaload, 0, 0, 0), some (.invokevirtual 168, 128, 3, 0), none, none, some (.pop, 0, 0, 0), some (.aload_n 2, 0, 0, 0), some (.aload_n 0, 0, 0, 0), some (.iload_n 3, 0, 0, 0), some (.iconst 1, 0, 0, 1), some (.iadd, 0, 0, 0), some (.iaload, 0, 0, 0)],
  [some (.aload_n 0, 0, 0, 0), some (.iload_n 3, 0, 0, 0), some (.iconst 2, 0, 0, 2), some (.iadd, 0, 0, 0), some (.iaload, 0, 0, 0), some (.invokevirtual 171, 238, 3, 0), none, none, some (.pop, 0, 0, 0), some (.goto 170, 1683, 0, 0), none, none, some (.aload_n 1, 0, 0, 0), some (.aload_n 0, 0, 0, 0), some (.iload_n 3, 0, 0, 0), some (.iconst 1, 0, 0, 1)],
  [some (.iadd, 0, 0, 0), some (.iaload, 0, 0, 0), some (.aload_n 0, 0, 0, 0), some (.iload_n 3, 0, 0, 0), some (.iconst 2, 0, 0, 2), some (.iadd, 0, 0, 0), some (.iaload, 0, 0, 0), some (.aload_n 0, 0, 0, 0), some (.iload_n 3, 0, 0, 0), some (.iconst 3, 0, 0, 3), some (.iadd, 0, 0, 0), some (.iaload, 0, 0, 0), some (.invokevirtual 172, 135, 4, 0), none, none, some (.pop, 0, 0, 0)],
  [some (.aload_n 2, 0, 0, 0), some (.aload_n 0, 0, 0, 0), some (.iload_n 3, 0, 0, 0), some (.iconst 1, 0, 0, 1), some (.iadd, 0, 0, 0), some (.iaload, 0, 0, 0), some (.aload_n 0, 0, 0, 0), some (.iload_n 3, 0, 0, 0), some (.iconst 2, 0, 0, 2), some (.iadd, 0, 0, 0), some (.iaload, 0, 0, 0), some (.aload_n 0, 0, 0, 0), some (.iload_n 3, 0, 0, 0), some (.iconst 3, 0, 0, 3), some (.iadd, 0, 0, 0), some (.iaload, 0, 0, 0)],
  [some (.invokevirtual 175, 241, 4, 0), none, none, some (.pop, 0, 0, 0), some (.goto 127, 1683, 0, 0), none, none, some (.aload_n 1, 0, 0, 0), some (.invokevirtual 176, 142, 1, 0), none, none, some (.pop, 0, 0, 0), some (.aload_n 2, 0, 0, 0), some (.invokevirtual 179, 243, 1, 0), none, none],
  [some (.pop, 0, 0, 0), some (.goto 114, 1683, 0, 0), none, none, some (.aload_n 1, 0, 0, 0), some (.invokevirtual 180, 143, 1, 0), none, none, some (.pop2, 0, 0, 0), some (.aload_n 2, 0, 0, 0), some (.invokevirtual 184, 244, 1, 0), none, none, some (.pop2, 0, 0, 0), some (.goto 101, 1683, 0, 0), none],
  [none, some (.aload_n 1, 0, 0, 0), some (.invokevirtual 185, 144, 1, 0), none, none, some (.pop2, 0, 0, 0), some (.aload_n 2, 0, 0, 0), some (.invokevirtual 188, 245, 1, 0), none, none, some (.pop2, 0, 0, 0), some (.goto 88, 1683, 0, 0), none, none, some (.aload_n 1, 0, 0, 0), some (.invokevirtual 189, 145, 1, 0)],
  [none, none, some (.pop2, 0, 0, 0), some (.aload_n 2, 0, 0, 0), some (.invokevirtual 192, 246, 1, 0), none, none, some (.pop2, 0, 0, 0), some (.goto 75, 1683, 0, 0), none, none, some (.aload_n 1, 0, 0, 0), some (.aload_n 0, 0, 0, 0), some (.iload_n 3, 0, 0, 0), some (.iconst 1, 0, 0, 1), some (.iadd, 0, 0, 0)],
  [some (.iaload, 0, 0, 0), some (.invokevirtual 193, 146, 2, 0), none, none, some (.pop, 0, 0, 0), some (.aload_n 2, 0, 0, 0), some (.aload_n 0, 0, 0, 0), some (.iload_n 3, 0, 0, 0), some (.iconst 1, 0, 0, 1), some (.iadd, 0, 0, 0), some (.iaload, 0, 0, 0), some (.invokevirtual 196, 247, 2, 0), none, none, some (.pop, 0, 0, 0), some (.goto 52, 1683, 0, 0)],
  [none, none, some (.aload_n 1, 0, 0, 0), some (.invokevirtual 197, 150, 1, 0), none, none, some (.pop, 0, 0, 0), some (.aload_n 2, 0, 0, 0), some (.invokevirtual 200, 249, 1, 0), none, none, some (.pop, 0, 0, 0), some (.goto 39, 1683, 0, 0), none, none, some (.aload_n 1, 0, 0, 0)],
  [some (.aload_n 0, 0, 0, 0), some (.iload_n 3, 0, 0, 0), some (.iconst 1, 0, 0, 1), some (.iadd, 0, 0, 0), some (.iaload, 0, 0, 0), some (.invokevirtual 201, 151, 2, 0), none, none, some (.pop, 0, 0, 0), some (.aload_n 2, 0, 0, 0), some (.aload_n 0, 0, 0, 0), some (.iload_n 3, 0, 0, 0), some (.iconst 1, 0, 0, 1), some (.iadd, 0, 0, 0), some (.iaload, 0, 0, 0), some (.invokevirtual 204, 250, 2, 0)],
  [none, none, some (.pop, 0, 0, 0), some (.goto 16, 1683, 0, 0), none, none, some (.aload_n 1, 0, 0, 0), some (.invokevirtual 205, 152, 1, 0), none, none, some (.pop2, 0, 0, 0), some (.aload_n 2, 0, 0, 0), some (.invokevirtual 208, 251, 1, 0), none, none, some (.pop2, 0, 0, 0)],
  [some (.goto 3, 1683, 0, 0), none, none, some (.iinc 3 6, 0, 0, 6), none, none, some (.goto (-1668), 18, 0, 0), none, none, some (.iconst 1, 0, 0, 1), some (.ireturn, 0, 0, 0), none, none, none, none, none]])
def xokL (c : Nat) : Bool := xgo (xfast xfin xFL xMV xMS xMI xOI xCL xAL xKI xKL xGS xmL) (xm_t xmL) 64 (64 * c) ((xm_c xmL).data.toList.drop (64 * c))
theorem xgL_0 : xokL 0 = true := by decide +kernel
theorem xgL_1 : xokL 1 = true := by decide +kernel
theorem xgL_2 : xokL 2 = true := by decide +kernel
theorem xgL_3 : xokL 3 = true := by decide +kernel
theorem xgL_4 : xokL 4 = true := by decide +kernel
theorem xgL_5 : xokL 5 = true := by decide +kernel
theorem xgL_6 : xokL 6 = true := by decide +kernel
theorem xgL_7 : xokL 7 = true := by decide +kernel
theorem xgL_8 : xokL 8 = true := by decide +kernel
theorem xgL_9 : xokL 9 = true := by decide +kernel
theorem xgL_10 : xokL 10 = true := by decide +kernel
theorem xgL_11 : xokL 11 = true := by decide +kernel
theorem xgL_12 : xokL 12 = true := by decide +kernel
theorem xgL_13 : xokL 13 = true := by decide +kernel
theorem xgL_14 : xokL 14 = true := by decide +kernel
theorem xgL_15 : xokL 15 = true := by decide +kernel
theorem xgL_16 : xokL 16 = true := by decide +kernel
theorem xgL_17 : xokL 17 = true := by decide +kernel
theorem xgL_18 : xokL 18 = true := by decide +kernel
theorem xgL_19 : xokL 19 = true := by decide +kernel
theorem xgL_20 : xokL 20 = true := by decide +kernel
theorem xgL_21 : xokL 21 = true := by decide +kernel
theorem xgL_22 : xokL 22 = true := by decide +kernel
theorem xgL_23 : xokL 23 = true := by decide +kernel
theorem xgL_24 : xokL 24 = true := by decide +kernel
theorem xgL_25 : xokL 25 = true := by decide +kernel
theorem xgL_26 : xokL 26 = true := by decide +kernel
theorem xgL : ∀ c, c < 27 → xokL c = true
  | 0, _ => xgL_0
  | 1, _ => xgL_1
  | 2, _ => xgL_2
  | 3, _ => xgL_3
  | 4, _ => xgL_4
  | 5, _ => xgL_5
  | 6, _ => xgL_6
  | 7, _ => xgL_7
  | 8, _ => xgL_8
  | 9, _ => xgL_9
  | 10, _ => xgL_10
  | 11, _ => xgL_11
  | 12, _ => xgL_12
  | 13, _ => xgL_13
  | 14, _ => xgL_14
  | 15, _ => xgL_15
  | 16, _ => xgL_16
  | 17, _ => xgL_17
  | 18, _ => xgL_18
  | 19, _ => xgL_19
  | 20, _ => xgL_20
  | 21, _ => xgL_21
  | 22, _ => xgL_22
  | 23, _ => xgL_23
  | 24, _ => xgL_24
  | 25, _ => xgL_25
  | 26, _ => xgL_26
  | c + 27, h => absurd h (by omega)
theorem xgL_ok {pc : Nat} {q : XE} (hq : xfetch (xm_t xmL) pc = some q) : xokb xfin xFL xMV xMS xMI xOI xCL xAL xKI xKL xGS xmL pc q.2.1 q.2.2.1 q.2.2.2 q.1 = true := by
  have hlt := x_fetch_lt hq
  have hlen : (xm_t xmL).length = 106 := by decide +kernel
  rw [hlen] at hlt
  have e : 64 * (pc / 64) + pc % 64 = pc := by omega
  have h := xgo_ok (L := (xm_c xmL).data.toList) 64 (64 * (pc / 64)) _ rfl (xgL (pc / 64) (by omega)) (pc % 64) (by omega) q (by rw [e]; exact hq)
  rw [e] at h
  exact xfast_ok h
def xSTX : List (List XV) := [[xi 0, xi 0, xi 0, xi 2, xi 0, xi 4, xi 0], [xi 0, xi 0, xi (-1), xi 1, xi 0], [xi 0, xi (-1), xi 0, xi 0, xi 1], [xi 0, xi 0, xi 0, xi 0, xi 3, xi 3], [xi 72, xi 76, xi 87, xi 69]]
def tysX (tA : Nat → ClassId) : List (ClassId × FieldType) := [(tA 0, .int), (tA 1, .long), (tA 2, .boolean), (tA 3, .object "IceBoats$Row"), (tA 4, .object "IceBoats$Boat"), (tA 5, .object "IceBoats$Word"), (tA 6, .object "IceBoats$Look")]
theorem x_tysX (tA : Nat → ClassId) : xty (tysX tA) tA := ⟨rfl, rfl, rfl, fun t h1 h2 => by
  rcases (show t = 3 ∨ t = 4 ∨ t = 5 ∨ t = 6 by omega) with rfl | rfl | rfl | rfl
  · exact ⟨_, rfl⟩
  · exact ⟨_, rfl⟩
  · exact ⟨_, rfl⟩
  · exact ⟨_, rfl⟩⟩
theorem x_tysY (tA : Nat → ClassId) : ∀ t C, 3 ≤ t → t < 7 → xTY t = some (.object C) → (tysX tA)[t]? = some (tA t, .object C) := by
  intro t C h1 h2 h
  rcases (show t = 3 ∨ t = 4 ∨ t = 5 ∨ t = 6 by omega) with rfl | rfl | rfl | rfl <;> cases h <;> rfl
theorem x_tysC (tA : Nat → ClassId) : ∀ t b, xTC t = some b → 3 ≤ t ∧ t < 7 ∧ ∃ o : vw_C, vwCl[b]? = some o ∧ (tysX tA)[t]? = some (tA t, .object o.1) := by
  intro t b h
  by_cases ht : 3 ≤ t ∧ t < 7
  · rcases (show t = 3 ∨ t = 4 ∨ t = 5 ∨ t = 6 by omega) with rfl | rfl | rfl | rfl <;> cases h
    · exact ⟨by decide, by decide, (RX4, TX4, 2), rfl, rfl⟩
    · exact ⟨by decide, by decide, (RX0, TX0, 12), rfl, rfl⟩
    · exact ⟨by decide, by decide, (RX8, TX8, 7), rfl, rfl⟩
    · exact ⟨by decide, by decide, (RX2, TX2, 4), rfl, rfl⟩
  · exfalso
    unfold xTC at h
    split at h <;> first | omega | cases h
theorem x_arrP {args : Array Value} {s : State} {ty : FieldType} (hp : ∀ C, ty ≠ .object C) (h : (Cond.arrayClass ty).before args s = true) : ∃ cA, ArrOfT s cA ty ∧ va_RA s cA ty := by
  obtain ⟨c, k, comp, h1, h2, h3⟩ := Cond.arrayClass_spec h
  refine ⟨c, fun n z => ⟨fun k h => (by cases h), k, h2, comp, h3⟩, ?_⟩
  cases ty <;> first | exact h1 | exact absurd rfl (hp _)
theorem x_arrO {args : Array Value} {s : State} {C : String} (h : (Cond.arrayOver (.object C)).before args s = true) : ∃ cA, ArrOfT s cA (.object C) ∧ va_RA s cA (.object C) := by
  obtain ⟨comp, c, k, h1, -, h3, h4, h5⟩ := Cond.arrayOver_spec h
  exact ⟨c, fun n z => ⟨fun k h => (by cases h), k, h3, comp, h4⟩, k, comp, h3, h4, h1, h5⟩
theorem x_mapi {vs : List Int32} {i : Nat} {x : XV} (h : (vs.map fun v => xi v.toInt)[i]? = some x) : xv_in [] [] x (.int (vs.getD i 0)) := by
  rw [List.getElem?_map] at h
  cases hv : vs[i]? with
  | none => rw [hv] at h; cases h
  | some v =>
    rw [hv] at h
    cases h
    rw [List.getD_eq_getElem?_getD, hv]
    exact ⟨v, rfl, Int.le_refl _, Int.le_refl _⟩
